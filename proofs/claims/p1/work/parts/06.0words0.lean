set_option maxRecDepth 20000 in
theorem ggX8_setRoute_X8_needSite : GoodIn wsX8_setRoute wsX8_needSite := goodIn_ca (goodIn_r _ [9, 1, 2, 10, 11, 12, 13, 14, 15, 16, 17, 8, 18, 19, 20, 45, 46, 47, 48, 49, 50, 51, 52, 53, 54, 55, 56, 57, 58, 59] (by decide +kernel) (by decide +kernel)) (goodIn_sub (fun _ h => List.mem_cons_of_mem _ (List.mem_append_left _ (List.mem_append_right _ h))) (by decide +kernel))
set_option maxRecDepth 20000 in
theorem gX8_setRoute_X8_needSite : GoodIn wsX8_setRoute (wsV RX8 58 RX8 yX8_needSite wsX8_needSite) := goodIn_app (goodIn_of _ (by decide +kernel)) ggX8_setRoute_X8_needSite
set_option maxRecDepth 20000 in
theorem ggX8_setPolicy_X8_needItem : GoodIn wsX8_setPolicy wsX8_needItem := goodIn_ca (goodIn_r _ [13, 1, 14, 15, 16, 17, 18, 19, 20, 21, 22, 12, 23, 24, 25, 59, 60, 61, 62, 63, 64, 65, 66, 67, 68, 69, 70, 76, 77, 78, 79, 80] (by decide +kernel) (by decide +kernel)) (goodIn_sub (fun _ h => List.mem_cons_of_mem _ (List.mem_append_left _ (List.mem_append_right _ h))) (by decide +kernel))
set_option maxRecDepth 20000 in
theorem gX8_setPolicy_X8_needItem : GoodIn wsX8_setPolicy (wsV RX8 86 RX8 yX8_needItem wsX8_needItem) := goodIn_app (goodIn_of _ (by decide +kernel)) ggX8_setPolicy_X8_needItem
set_option maxRecDepth 20000 in
theorem ggX8_receive_X8_needItem : GoodIn wsX8_receive wsX8_needItem := goodIn_ca (goodIn_r _ [11, 1, 5, 12, 13, 14, 15, 16, 17, 18, 19, 10, 20, 21, 22, 77, 78, 79, 80, 81, 82, 83, 84, 85, 86, 87, 88, 95, 96, 97, 98, 99] (by decide +kernel) (by decide +kernel)) (goodIn_sub (fun _ h => List.mem_cons_of_mem _ (List.mem_append_left _ (List.mem_append_left _ (List.mem_append_right _ h)))) (by decide +kernel))
set_option maxRecDepth 20000 in
theorem gX8_receive_X8_needItem : GoodIn wsX8_receive (wsV RX8 86 RX8 yX8_needItem wsX8_needItem) := goodIn_app (goodIn_of _ (by decide +kernel)) ggX8_receive_X8_needItem
set_option maxRecDepth 20000 in
theorem ggX8_order_X8_needItem : GoodIn wsX8_order wsX8_needItem := goodIn_ca (goodIn_r _ [9, 1, 10, 11, 12, 13, 14, 15, 16, 17, 18, 8, 19, 20, 21, 107, 108, 109, 110, 111, 112, 113, 114, 115, 116, 117, 118, 130, 131, 132, 133, 134] (by decide +kernel) (by decide +kernel)) (goodIn_sub (fun _ h => List.mem_cons_of_mem _ (List.mem_append_left _ (List.mem_append_left _ (List.mem_append_right _ h)))) (by decide +kernel))
set_option maxRecDepth 20000 in
theorem gX8_order_X8_needItem : GoodIn wsX8_order (wsV RX8 86 RX8 yX8_needItem wsX8_needItem) := goodIn_app (goodIn_of _ (by decide +kernel)) ggX8_order_X8_needItem
set_option maxRecDepth 20000 in
theorem ggX8_cancel_X8_needOrder : GoodIn wsX8_cancel wsX8_needOrder := goodIn_ca (goodIn_r _ [9, 1, 2, 10, 11, 12, 13, 14, 15, 16, 17, 8, 18, 19, 20, 46, 47, 48, 49, 50, 51, 52, 53, 54, 55, 56, 57, 58, 59, 60, 61, 62, 63, 64, 65, 66, 67, 68] (by decide +kernel) (by decide +kernel)) (goodIn_sub (fun _ h => List.mem_cons_of_mem _ (List.mem_append_left _ (List.mem_append_right _ h))) (by decide +kernel))
set_option maxRecDepth 20000 in
theorem gX8_cancel_X8_needOrder : GoodIn wsX8_cancel (wsV RX8 144 RX8 yX8_needOrder wsX8_needOrder) := goodIn_app (goodIn_of _ (by decide +kernel)) ggX8_cancel_X8_needOrder
set_option maxRecDepth 20000 in
theorem ggX8_ship_X8_needOrder : GoodIn wsX8_ship wsX8_needOrder := goodIn_ca (goodIn_r _ [9, 1, 2, 10, 11, 12, 13, 14, 15, 16, 17, 8, 18, 19, 20, 73, 74, 75, 76, 77, 78, 79, 80, 81, 82, 83, 84, 85, 86, 87, 88, 89, 90, 91, 92, 93, 94, 95] (by decide +kernel) (by decide +kernel)) (goodIn_sub (fun _ h => List.mem_cons_of_mem _ (List.mem_append_left _ (List.mem_append_right _ h))) (by decide +kernel))
set_option maxRecDepth 20000 in
theorem gX8_ship_X8_needOrder : GoodIn wsX8_ship (wsV RX8 144 RX8 yX8_needOrder wsX8_needOrder) := goodIn_app (goodIn_of _ (by decide +kernel)) ggX8_ship_X8_needOrder
set_option maxRecDepth 20000 in
theorem ggX8_send_X8_needItem : GoodIn wsX8_send wsX8_needItem := goodIn_ca (goodIn_r _ [7, 1, 8, 9, 10, 11, 12, 13, 14, 15, 16, 6, 17, 18, 19, 95, 96, 97, 98, 99, 100, 101, 102, 103, 104, 105, 106, 107, 108, 109, 110, 111] (by decide +kernel) (by decide +kernel)) (goodIn_sub (fun _ h => List.mem_cons_of_mem _ (List.mem_append_left _ (List.mem_append_right _ h))) (by decide +kernel))
set_option maxRecDepth 20000 in
theorem gX8_send_X8_needItem : GoodIn wsX8_send (wsV RX8 86 RX8 yX8_needItem wsX8_needItem) := goodIn_app (goodIn_of _ (by decide +kernel)) ggX8_send_X8_needItem
set_option maxRecDepth 20000 in
theorem ggX8_balance_X8_needItem : GoodIn wsX8_balance wsX8_needItem := goodIn_ca (goodIn_r _ [10, 2, 11, 12, 13, 14, 15, 16, 17, 18, 19, 9, 20, 21, 22, 182, 183, 184, 185, 186, 187, 188, 189, 190, 191, 192, 193, 204, 205, 206, 207, 208] (by decide +kernel) (by decide +kernel)) (goodIn_sub (fun _ h => List.mem_cons_of_mem _ (List.mem_append_right _ h)) (by decide +kernel))
set_option maxRecDepth 20000 in
theorem gX8_balance_X8_needItem : GoodIn wsX8_balance (wsV RX8 86 RX8 yX8_needItem wsX8_needItem) := goodIn_app (goodIn_of _ (by decide +kernel)) ggX8_balance_X8_needItem
set_option maxRecDepth 20000 in
theorem ggX8_ofLot_X8_needLot : GoodIn wsX8_ofLot wsX8_needLot := goodIn_ca (goodIn_r _ [7, 1, 2, 8, 9, 10, 11, 12, 13, 14, 15, 6, 16, 17, 18, 36, 37, 38, 39, 40, 41, 42, 43, 44, 45, 46, 47, 48, 49, 50, 51, 52, 53] (by decide +kernel) (by decide +kernel)) (goodIn_sub (fun _ h => List.mem_cons_of_mem _ (List.mem_append_left _ (List.mem_append_right _ h))) (by decide +kernel))
set_option maxRecDepth 20000 in
theorem gX8_ofLot_X8_needLot : GoodIn wsX8_ofLot (wsV RX8 190 RX8 yX8_needLot wsX8_needLot) := goodIn_app (goodIn_of _ (by decide +kernel)) ggX8_ofLot_X8_needLot
set_option maxRecDepth 20000 in
theorem ggX8_ofOrder_X8_needOrder : GoodIn wsX8_ofOrder wsX8_needOrder := goodIn_ca (goodIn_r _ [7, 1, 2, 8, 9, 10, 11, 12, 13, 14, 15, 6, 16, 17, 18, 36, 37, 38, 39, 40, 41, 42, 43, 44, 45, 46, 47, 48, 49, 50, 51, 52, 53, 54, 55, 56, 57, 58] (by decide +kernel) (by decide +kernel)) (goodIn_sub (fun _ h => List.mem_cons_of_mem _ (List.mem_append_left _ (List.mem_append_right _ h))) (by decide +kernel))
set_option maxRecDepth 20000 in
theorem gX8_ofOrder_X8_needOrder : GoodIn wsX8_ofOrder (wsV RX8 144 RX8 yX8_needOrder wsX8_needOrder) := goodIn_app (goodIn_of _ (by decide +kernel)) ggX8_ofOrder_X8_needOrder
set_option maxRecDepth 20000 in
theorem ggX8_reserved_X8_needOrder : GoodIn wsX8_reserved wsX8_needOrder := goodIn_ca (goodIn_r _ [7, 1, 2, 8, 9, 10, 11, 12, 13, 14, 15, 6, 16, 17, 18, 35, 36, 37, 38, 39, 40, 41, 42, 43, 44, 45, 46, 47, 48, 49, 50, 51, 52, 53, 54, 55, 56, 57] (by decide +kernel) (by decide +kernel)) (goodIn_sub (fun _ h => List.mem_cons_of_mem _ (List.mem_append_right _ h)) (by decide +kernel))
set_option maxRecDepth 20000 in
theorem gX8_reserved_X8_needOrder : GoodIn wsX8_reserved (wsV RX8 144 RX8 yX8_needOrder wsX8_needOrder) := goodIn_app (goodIn_of _ (by decide +kernel)) ggX8_reserved_X8_needOrder
set_option maxRecDepth 20000 in
theorem ggX8_ofTransport_X7_has : GoodIn wsX8_ofTransport wsX7_has := goodIn_r _ [7, 8, 45, 46, 47, 48, 49, 50, 51] (by decide +kernel) (by decide +kernel)
set_option maxRecDepth 20000 in
theorem gX8_ofTransport_X7_has : GoodIn wsX8_ofTransport (wsV RX8 200 RX7 yX7_has wsX7_has) := goodIn_app (goodIn_of _ (by decide +kernel)) ggX8_ofTransport_X7_has
set_option maxRecDepth 20000 in
theorem ggX8_ofTransport_X8_needIndex : GoodIn wsX8_ofTransport wsX8_needIndex := goodIn_ca (goodIn_r _ [12, 13, 14] (by decide +kernel) (by decide +kernel)) (goodIn_sub (fun _ h => List.mem_cons_of_mem _ (List.mem_append_left _ (List.mem_append_right _ h))) (by decide +kernel))
set_option maxRecDepth 20000 in
theorem gX8_ofTransport_X8_needIndex : GoodIn wsX8_ofTransport (va_wsS RX8 204 yX8_needIndex wsX8_needIndex) := goodIn_app (goodIn_of _ (by decide +kernel)) ggX8_ofTransport_X8_needIndex
set_option maxRecDepth 20000 in
theorem ggX8_route_X8_needSite : GoodIn wsX8_route wsX8_needSite := goodIn_ca (goodIn_r _ [7, 1, 2, 8, 9, 10, 11, 12, 13, 14, 15, 6, 16, 17, 18, 27, 28, 29, 30, 31, 32, 33, 34, 35, 36, 37, 38, 39, 40, 41] (by decide +kernel) (by decide +kernel)) (goodIn_sub (fun _ h => List.mem_cons_of_mem _ (List.mem_append_right _ h)) (by decide +kernel))
set_option maxRecDepth 20000 in
theorem gX8_route_X8_needSite : GoodIn wsX8_route (wsV RX8 58 RX8 yX8_needSite wsX8_needSite) := goodIn_app (goodIn_of _ (by decide +kernel)) ggX8_route_X8_needSite
set_option maxRecDepth 20000 in
theorem ggX8_hasPolicy_X8_needItem : GoodIn wsX8_hasPolicy wsX8_needItem := goodIn_ca (goodIn_r _ [7, 1, 8, 9, 10, 11, 12, 13, 14, 15, 16, 6, 17, 18, 19, 39, 40, 41, 42, 43, 44, 45, 46, 47, 48, 49, 50, 51, 52, 53, 54, 55] (by decide +kernel) (by decide +kernel)) (goodIn_sub (fun _ h => List.mem_cons_of_mem _ (List.mem_append_right _ h)) (by decide +kernel))
set_option maxRecDepth 20000 in
theorem gX8_hasPolicy_X8_needItem : GoodIn wsX8_hasPolicy (wsV RX8 86 RX8 yX8_needItem wsX8_needItem) := goodIn_app (goodIn_of _ (by decide +kernel)) ggX8_hasPolicy_X8_needItem
set_option maxRecDepth 20000 in
theorem ggX8_onHand_X8_needItem : GoodIn wsX8_onHand wsX8_needItem := goodIn_ca (goodIn_r _ [7, 1, 8, 9, 10, 11, 12, 13, 14, 15, 16, 6, 17, 18, 19, 46, 47, 48, 49, 50, 51, 52, 53, 54, 55, 56, 57, 58, 59, 60, 61, 62] (by decide +kernel) (by decide +kernel)) (goodIn_sub (fun _ h => List.mem_cons_of_mem _ (List.mem_append_right _ h)) (by decide +kernel))
set_option maxRecDepth 20000 in
theorem gX8_onHand_X8_needItem : GoodIn wsX8_onHand (wsV RX8 86 RX8 yX8_needItem wsX8_needItem) := goodIn_app (goodIn_of _ (by decide +kernel)) ggX8_onHand_X8_needItem
set_option maxRecDepth 20000 in
theorem ggX8_free_X8_needItem : GoodIn wsX8_free wsX8_needItem := goodIn_ca (goodIn_r _ [7, 1, 8, 9, 10, 11, 12, 13, 14, 15, 16, 6, 17, 18, 19, 50, 51, 52, 53, 54, 55, 56, 57, 58, 59, 60, 61, 62, 63, 64, 65, 66] (by decide +kernel) (by decide +kernel)) (goodIn_sub (fun _ h => List.mem_cons_of_mem _ (List.mem_append_right _ h)) (by decide +kernel))
set_option maxRecDepth 20000 in
theorem gX8_free_X8_needItem : GoodIn wsX8_free (wsV RX8 86 RX8 yX8_needItem wsX8_needItem) := goodIn_app (goodIn_of _ (by decide +kernel)) ggX8_free_X8_needItem
set_option maxRecDepth 20000 in
theorem ggX8_underWay_X8_needItem : GoodIn wsX8_underWay wsX8_needItem := goodIn_ca (goodIn_r _ [7, 1, 8, 9, 10, 11, 12, 13, 14, 15, 16, 6, 17, 18, 19, 41, 42, 43, 44, 45, 46, 47, 48, 49, 50, 51, 52, 53, 54, 55, 56, 57] (by decide +kernel) (by decide +kernel)) (goodIn_sub (fun _ h => List.mem_cons_of_mem _ (List.mem_append_right _ h)) (by decide +kernel))
set_option maxRecDepth 20000 in
theorem gX8_underWay_X8_needItem : GoodIn wsX8_underWay (wsV RX8 86 RX8 yX8_needItem wsX8_needItem) := goodIn_app (goodIn_of _ (by decide +kernel)) ggX8_underWay_X8_needItem
set_option maxRecDepth 20000 in
theorem ggX8_position_X8_needItem : GoodIn wsX8_position wsX8_needItem := goodIn_ca (goodIn_r _ [6, 1, 7, 8, 9, 10, 11, 12, 13, 14, 15, 5, 16, 17, 18, 77, 78, 79, 80, 81, 82, 83, 84, 85, 86, 87, 88, 89, 90, 91, 92, 93] (by decide +kernel) (by decide +kernel)) (goodIn_sub (fun _ h => List.mem_cons_of_mem _ (List.mem_append_right _ h)) (by decide +kernel))
set_option maxRecDepth 20000 in
theorem gX8_position_X8_needItem : GoodIn wsX8_position (wsV RX8 86 RX8 yX8_needItem wsX8_needItem) := goodIn_app (goodIn_of _ (by decide +kernel)) ggX8_position_X8_needItem
set_option maxRecDepth 20000 in
theorem ggX8_roomLeft_X8_needSite : GoodIn wsX8_roomLeft wsX8_needSite := goodIn_ca (goodIn_r _ [6, 1, 7, 8, 9, 10, 11, 12, 13, 14, 15, 5, 16, 17, 18, 36, 37, 38, 39, 40, 41, 42, 43, 44, 45, 46, 47, 48, 49, 50] (by decide +kernel) (by decide +kernel)) (goodIn_sub (fun _ h => List.mem_cons_of_mem _ (List.mem_append_right _ h)) (by decide +kernel))
set_option maxRecDepth 20000 in
theorem gX8_roomLeft_X8_needSite : GoodIn wsX8_roomLeft (wsV RX8 58 RX8 yX8_needSite wsX8_needSite) := goodIn_app (goodIn_of _ (by decide +kernel)) ggX8_roomLeft_X8_needSite
set_option maxRecDepth 20000 in
theorem ggX8_expiring_X8_needItem : GoodIn wsX8_expiring wsX8_needItem := goodIn_ca (goodIn_r _ [8, 1, 9, 10, 11, 12, 13, 14, 15, 16, 17, 7, 18, 19, 20, 50, 51, 52, 53, 54, 55, 56, 57, 58, 59, 60, 61, 62, 63, 64, 65, 66] (by decide +kernel) (by decide +kernel)) (goodIn_sub (fun _ h => List.mem_cons_of_mem _ (List.mem_append_left _ (List.mem_append_right _ h))) (by decide +kernel))
set_option maxRecDepth 20000 in
theorem gX8_expiring_X8_needItem : GoodIn wsX8_expiring (wsV RX8 86 RX8 yX8_needItem wsX8_needItem) := goodIn_app (goodIn_of _ (by decide +kernel)) ggX8_expiring_X8_needItem
set_option maxRecDepth 20000 in
theorem ggX8_couldTake_X8_needItem : GoodIn wsX8_couldTake wsX8_needItem := goodIn_ca (goodIn_r _ [8, 1, 9, 10, 11, 12, 13, 14, 15, 16, 17, 7, 18, 19, 20, 55, 56, 57, 58, 59, 60, 61, 62, 63, 64, 65, 66, 67, 68, 69, 70, 71] (by decide +kernel) (by decide +kernel)) (goodIn_sub (fun _ h => List.mem_cons_of_mem _ (List.mem_append_left _ (List.mem_append_right _ h))) (by decide +kernel))
set_option maxRecDepth 20000 in
theorem gX8_couldTake_X8_needItem : GoodIn wsX8_couldTake (wsV RX8 86 RX8 yX8_needItem wsX8_needItem) := goodIn_app (goodIn_of _ (by decide +kernel)) ggX8_couldTake_X8_needItem
set_option maxRecDepth 20000 in
theorem ggX8_rate_X8_needItem : GoodIn wsX8_rate wsX8_needItem := goodIn_ca (goodIn_r _ [6, 1, 7, 8, 9, 10, 11, 12, 13, 14, 15, 5, 16, 17, 18, 60, 61, 62, 63, 64, 65, 66, 67, 68, 69, 70, 71, 72, 73, 74, 75, 76] (by decide +kernel) (by decide +kernel)) (goodIn_sub (fun _ h => List.mem_cons_of_mem _ (List.mem_append_left _ (List.mem_append_right _ h))) (by decide +kernel))
set_option maxRecDepth 20000 in
theorem gX8_rate_X8_needItem : GoodIn wsX8_rate (wsV RX8 86 RX8 yX8_needItem wsX8_needItem) := goodIn_app (goodIn_of _ (by decide +kernel)) ggX8_rate_X8_needItem
set_option maxRecDepth 20000 in
theorem ggX8_pointFor_X8_needItem : GoodIn wsX8_pointFor wsX8_needItem := goodIn_ca (goodIn_r _ [12, 1, 13, 14, 15, 16, 17, 18, 19, 20, 21, 11, 22, 23, 24, 59, 60, 61, 62, 63, 64, 65, 66, 67, 68, 69, 70, 71, 72, 73, 74, 75] (by decide +kernel) (by decide +kernel)) (goodIn_sub (fun _ h => List.mem_cons_of_mem _ (List.mem_append_left _ (List.mem_append_right _ h))) (by decide +kernel))
set_option maxRecDepth 20000 in
theorem gX8_pointFor_X8_needItem : GoodIn wsX8_pointFor (wsV RX8 86 RX8 yX8_needItem wsX8_needItem) := goodIn_app (goodIn_of _ (by decide +kernel)) ggX8_pointFor_X8_needItem
set_option maxRecDepth 20000 in
theorem ggX8_classOf_X8_needItem : GoodIn wsX8_classOf wsX8_needItem := goodIn_ca (goodIn_r _ [7, 1, 2, 8, 9, 10, 11, 12, 13, 14, 15, 6, 16, 17, 18, 24, 25, 26, 27, 28, 29, 30, 31, 32, 33, 34, 35, 36, 37, 38, 39, 40] (by decide +kernel) (by decide +kernel)) (goodIn_sub (fun _ h => List.mem_cons_of_mem _ (List.mem_append_right _ h)) (by decide +kernel))
set_option maxRecDepth 20000 in
theorem gX8_classOf_X8_needItem : GoodIn wsX8_classOf (wsV RX8 86 RX8 yX8_needItem wsX8_needItem) := goodIn_app (goodIn_of _ (by decide +kernel)) ggX8_classOf_X8_needItem
set_option maxRecDepth 20000 in
theorem ggX8_lacks_X8_needItem : GoodIn wsX8_lacks wsX8_needItem := goodIn_ca (goodIn_r _ [6, 1, 7, 8, 9, 10, 11, 12, 13, 14, 15, 5, 16, 17, 18, 95, 96, 97, 98, 99, 100, 101, 102, 103, 104, 105, 106, 107, 108, 109, 110, 111] (by decide +kernel) (by decide +kernel)) (goodIn_sub (fun _ h => List.mem_cons_of_mem _ (List.mem_append_right _ h)) (by decide +kernel))
set_option maxRecDepth 20000 in
theorem gX8_lacks_X8_needItem : GoodIn wsX8_lacks (wsV RX8 86 RX8 yX8_needItem wsX8_needItem) := goodIn_app (goodIn_of _ (by decide +kernel)) ggX8_lacks_X8_needItem
set_option maxRecDepth 20000 in
theorem ggX8_spares_X8_needItem : GoodIn wsX8_spares wsX8_needItem := goodIn_ca (goodIn_r _ [6, 1, 7, 8, 9, 10, 11, 12, 13, 14, 15, 5, 16, 17, 18, 111, 112, 113, 114, 115, 116, 117, 118, 119, 120, 121, 122, 123, 124, 125, 126, 127] (by decide +kernel) (by decide +kernel)) (goodIn_sub (fun _ h => List.mem_cons_of_mem _ (List.mem_append_right _ h)) (by decide +kernel))
set_option maxRecDepth 20000 in
theorem gX8_spares_X8_needItem : GoodIn wsX8_spares (wsV RX8 86 RX8 yX8_needItem wsX8_needItem) := goodIn_app (goodIn_of _ (by decide +kernel)) ggX8_spares_X8_needItem
set_option maxRecDepth 20000 in
theorem ggX8_planned_X8_needItem : GoodIn wsX8_planned wsX8_needItem := goodIn_ca (goodIn_r _ [8, 2, 9, 10, 11, 12, 13, 14, 15, 16, 17, 7, 18, 19, 20, 156, 157, 158, 166, 167, 168, 169, 170, 171, 172, 173, 174, 175, 176, 177, 178, 179] (by decide +kernel) (by decide +kernel)) (goodIn_sub (fun _ h => List.mem_cons_of_mem _ (List.mem_append_right _ h)) (by decide +kernel))
set_option maxRecDepth 20000 in
theorem gX8_planned_X8_needItem : GoodIn wsX8_planned (wsV RX8 86 RX8 yX8_needItem wsX8_needItem) := goodIn_app (goodIn_of _ (by decide +kernel)) ggX8_planned_X8_needItem
set_option maxRecDepth 20000 in
theorem ggX8_onHandIn_X8_needItem : GoodIn wsX8_onHandIn wsX8_needItem := goodIn_ca (goodIn_r _ [8, 2, 9, 10, 11, 12, 13, 14, 15, 16, 17, 7, 18, 19, 20, 319, 320, 321, 322, 323, 324, 325, 326, 327, 328, 329, 330, 331, 332, 333, 334, 335] (by decide +kernel) (by decide +kernel)) (goodIn_sub (fun _ h => List.mem_cons_of_mem _ (List.mem_append_left _ (List.mem_append_right _ h))) (by decide +kernel))
set_option maxRecDepth 20000 in
theorem gX8_onHandIn_X8_needItem : GoodIn wsX8_onHandIn (wsV RX8 86 RX8 yX8_needItem wsX8_needItem) := goodIn_app (goodIn_of _ (by decide +kernel)) ggX8_onHandIn_X8_needItem
set_option maxRecDepth 20000 in
theorem ggX8_shippedOn_X8_needOrder : GoodIn wsX8_shippedOn wsX8_needOrder := goodIn_ca (goodIn_r _ [10, 2, 3, 11, 12, 13, 14, 15, 16, 17, 18, 9, 19, 20, 21, 316, 317, 318, 319, 320, 321, 322, 323, 324, 325, 326, 327, 328, 329, 330, 331, 332, 333, 334, 335, 336, 337, 338] (by decide +kernel) (by decide +kernel)) (goodIn_sub (fun _ h => List.mem_cons_of_mem _ (List.mem_append_left _ (List.mem_append_right _ h))) (by decide +kernel))
set_option maxRecDepth 20000 in
theorem gX8_shippedOn_X8_needOrder : GoodIn wsX8_shippedOn (wsV RX8 144 RX8 yX8_needOrder wsX8_needOrder) := goodIn_app (goodIn_of _ (by decide +kernel)) ggX8_shippedOn_X8_needOrder
