set_option maxRecDepth 20000 in
theorem ggX10_setRoute_X10_isSite : GoodIn wsX10_setRoute wsX10_isSite := goodIn_r _ [11, 2, 12, 13, 14, 10, 15, 20, 21, 22, 23, 24, 25, 26, 27, 28, 29, 30, 31, 32, 33, 34, 35, 36, 37, 38, 39, 40, 41, 42, 43, 44, 45, 46, 47, 48, 49, 50, 51, 52, 53, 54, 55, 56, 57] (by decide +kernel) (by decide +kernel)
set_option maxRecDepth 20000 in
theorem gX10_setRoute_X10_isSite : GoodIn wsX10_setRoute (wsV RX10 40 RX10 yX10_isSite wsX10_isSite) := goodIn_app (goodIn_of _ (by decide +kernel)) ggX10_setRoute_X10_isSite
set_option maxRecDepth 20000 in
theorem ggX10_setRoute_X10_no : GoodIn wsX10_setRoute wsX10_no := goodIn_r _ [19, 1, 20, 21] (by decide +kernel) (by decide +kernel)
set_option maxRecDepth 20000 in
theorem gX10_setRoute_X10_no : GoodIn wsX10_setRoute (wsV RX10 43 RX10 yX10_no wsX10_no) := goodIn_app (goodIn_of _ (by decide +kernel)) ggX10_setRoute_X10_no
set_option maxRecDepth 20000 in
theorem ggX10_setPolicy_X10_isBoth : GoodIn wsX10_setPolicy wsX10_isBoth := goodIn_r _ [12, 13, 14, 15, 11, 16, 2, 17, 18, 19, 20, 21, 22, 23, 24, 25, 30, 31, 32, 33, 34, 35, 36, 37, 38, 39, 40, 41, 42, 43, 44, 45, 46, 47, 48, 49, 50, 51, 52, 53, 54, 55, 56, 57, 58, 59, 60, 61, 62, 63, 64, 65, 66, 67] (by decide +kernel) (by decide +kernel)
set_option maxRecDepth 20000 in
theorem gX10_setPolicy_X10_isBoth : GoodIn wsX10_setPolicy (wsV RX10 69 RX10 yX10_isBoth wsX10_isBoth) := goodIn_app (goodIn_of _ (by decide +kernel)) ggX10_setPolicy_X10_isBoth
set_option maxRecDepth 20000 in
theorem ggX10_setPolicy_X10_isNot : GoodIn wsX10_setPolicy wsX10_isNot := goodIn_r _ [29, 1, 30, 31] (by decide +kernel) (by decide +kernel)
set_option maxRecDepth 20000 in
theorem gX10_setPolicy_X10_isNot : GoodIn wsX10_setPolicy (wsV RX10 73 RX10 yX10_isNot wsX10_isNot) := goodIn_app (goodIn_of _ (by decide +kernel)) ggX10_setPolicy_X10_isNot
set_option maxRecDepth 20000 in
theorem ggX10_receive_X10_isBoth : GoodIn wsX10_receive wsX10_isBoth := goodIn_r _ [11, 12, 13, 14, 10, 15, 2, 16, 17, 18, 19, 20, 21, 22, 23, 24, 44, 45, 46, 47, 48, 49, 50, 51, 52, 53, 54, 55, 56, 57, 58, 59, 60, 61, 62, 63, 64, 65, 66, 67, 68, 69, 70, 71, 72, 73, 74, 75, 76, 77, 78, 79, 80, 81] (by decide +kernel) (by decide +kernel)
set_option maxRecDepth 20000 in
theorem gX10_receive_X10_isBoth : GoodIn wsX10_receive (wsV RX10 69 RX10 yX10_isBoth wsX10_isBoth) := goodIn_app (goodIn_of _ (by decide +kernel)) ggX10_receive_X10_isBoth
set_option maxRecDepth 20000 in
theorem ggX10_receive_X10_no : GoodIn wsX10_receive wsX10_no := goodIn_r _ [28, 1, 44, 45] (by decide +kernel) (by decide +kernel)
set_option maxRecDepth 20000 in
theorem gX10_receive_X10_no : GoodIn wsX10_receive (wsV RX10 43 RX10 yX10_no wsX10_no) := goodIn_app (goodIn_of _ (by decide +kernel)) ggX10_receive_X10_no
set_option maxRecDepth 20000 in
theorem ggX10_order_X10_isBoth : GoodIn wsX10_order wsX10_isBoth := goodIn_r _ [17, 18, 19, 20, 16, 21, 2, 22, 23, 24, 25, 26, 27, 28, 29, 30, 72, 73, 74, 75, 76, 77, 78, 79, 80, 81, 82, 83, 84, 85, 86, 87, 88, 89, 90, 91, 92, 93, 94, 95, 96, 97, 98, 99, 100, 101, 102, 103, 104, 105, 106, 107, 108, 109] (by decide +kernel) (by decide +kernel)
set_option maxRecDepth 20000 in
theorem gX10_order_X10_isBoth : GoodIn wsX10_order (wsV RX10 69 RX10 yX10_isBoth wsX10_isBoth) := goodIn_app (goodIn_of _ (by decide +kernel)) ggX10_order_X10_isBoth
set_option maxRecDepth 20000 in
theorem ggX10_order_X10_no : GoodIn wsX10_order wsX10_no := goodIn_r _ [34, 1, 72, 73] (by decide +kernel) (by decide +kernel)
set_option maxRecDepth 20000 in
theorem gX10_order_X10_no : GoodIn wsX10_order (wsV RX10 43 RX10 yX10_no wsX10_no) := goodIn_app (goodIn_of _ (by decide +kernel)) ggX10_order_X10_no
set_option maxRecDepth 20000 in
theorem ggX10_cancel_X10_isOrder : GoodIn wsX10_cancel wsX10_isOrder := goodIn_r _ [8, 2, 9, 10, 11, 7, 12, 28, 29, 30, 31, 32, 33, 34, 35, 36, 37, 38, 39, 40, 41, 42, 43, 44, 45, 46, 47, 48, 49, 50, 51, 52, 53, 54, 55, 56, 57, 58, 59, 60, 61, 62, 63, 64, 65] (by decide +kernel) (by decide +kernel)
set_option maxRecDepth 20000 in
theorem gX10_cancel_X10_isOrder : GoodIn wsX10_cancel (wsV RX10 129 RX10 yX10_isOrder wsX10_isOrder) := goodIn_app (goodIn_of _ (by decide +kernel)) ggX10_cancel_X10_isOrder
set_option maxRecDepth 20000 in
theorem ggX10_cancel_X10_no : GoodIn wsX10_cancel wsX10_no := goodIn_r _ [16, 1, 28, 29] (by decide +kernel) (by decide +kernel)
set_option maxRecDepth 20000 in
theorem gX10_cancel_X10_no : GoodIn wsX10_cancel (wsV RX10 43 RX10 yX10_no wsX10_no) := goodIn_app (goodIn_of _ (by decide +kernel)) ggX10_cancel_X10_no
set_option maxRecDepth 20000 in
theorem ggX10_ship_X10_isOrder : GoodIn wsX10_ship wsX10_isOrder := goodIn_r _ [9, 2, 10, 11, 12, 8, 13, 43, 44, 45, 46, 47, 48, 49, 50, 51, 52, 53, 54, 55, 56, 57, 58, 59, 60, 61, 62, 63, 64, 65, 66, 67, 68, 69, 70, 71, 72, 73, 74, 75, 76, 77, 78, 79, 80] (by decide +kernel) (by decide +kernel)
set_option maxRecDepth 20000 in
theorem gX10_ship_X10_isOrder : GoodIn wsX10_ship (wsV RX10 129 RX10 yX10_isOrder wsX10_isOrder) := goodIn_app (goodIn_of _ (by decide +kernel)) ggX10_ship_X10_isOrder
set_option maxRecDepth 20000 in
theorem ggX10_ship_X10_no : GoodIn wsX10_ship wsX10_no := goodIn_r _ [17, 1, 43, 44] (by decide +kernel) (by decide +kernel)
set_option maxRecDepth 20000 in
theorem gX10_ship_X10_no : GoodIn wsX10_ship (wsV RX10 43 RX10 yX10_no wsX10_no) := goodIn_app (goodIn_of _ (by decide +kernel)) ggX10_ship_X10_no
set_option maxRecDepth 20000 in
theorem ggX10_send_X10_isBoth : GoodIn wsX10_send wsX10_isBoth := goodIn_r _ [8, 9, 10, 11, 7, 12, 2, 13, 14, 15, 16, 17, 18, 19, 20, 21, 63, 64, 65, 66, 67, 68, 69, 70, 71, 72, 73, 74, 75, 76, 77, 78, 79, 80, 81, 82, 83, 84, 85, 86, 87, 88, 89, 90, 91, 92, 93, 94, 95, 96, 97, 98, 99, 100] (by decide +kernel) (by decide +kernel)
set_option maxRecDepth 20000 in
theorem gX10_send_X10_isBoth : GoodIn wsX10_send (wsV RX10 69 RX10 yX10_isBoth wsX10_isBoth) := goodIn_app (goodIn_of _ (by decide +kernel)) ggX10_send_X10_isBoth
set_option maxRecDepth 20000 in
theorem ggX10_send_X10_no : GoodIn wsX10_send wsX10_no := goodIn_r _ [25, 1, 63, 64] (by decide +kernel) (by decide +kernel)
set_option maxRecDepth 20000 in
theorem gX10_send_X10_no : GoodIn wsX10_send (wsV RX10 43 RX10 yX10_no wsX10_no) := goodIn_app (goodIn_of _ (by decide +kernel)) ggX10_send_X10_no
set_option maxRecDepth 20000 in
theorem ggX10_balance_X10_isItem : GoodIn wsX10_balance wsX10_isItem := goodIn_r _ [7, 2, 8, 9, 10, 6, 11, 113, 114, 115, 116, 117, 118, 119, 120, 121, 122, 123, 124, 125, 126, 127, 128, 129, 130, 131, 132, 133, 134, 135, 136, 137, 138, 139, 140, 141, 142, 143, 144, 145, 146, 147, 148, 149, 150] (by decide +kernel) (by decide +kernel)
set_option maxRecDepth 20000 in
theorem gX10_balance_X10_isItem : GoodIn wsX10_balance (wsV RX10 36 RX10 yX10_isItem wsX10_isItem) := goodIn_app (goodIn_of _ (by decide +kernel)) ggX10_balance_X10_isItem
set_option maxRecDepth 20000 in
theorem ggX10_balance_X10_no : GoodIn wsX10_balance wsX10_no := goodIn_r _ [15, 1, 113, 114] (by decide +kernel) (by decide +kernel)
set_option maxRecDepth 20000 in
theorem gX10_balance_X10_no : GoodIn wsX10_balance (wsV RX10 43 RX10 yX10_no wsX10_no) := goodIn_app (goodIn_of _ (by decide +kernel)) ggX10_balance_X10_no
set_option maxRecDepth 20000 in
theorem ggX10_day_X10_ok : GoodIn wsX10_day wsX10_ok := goodIn_r _ [7, 8, 9, 10] (by decide +kernel) (by decide +kernel)
set_option maxRecDepth 20000 in
theorem gX10_day_X10_ok : GoodIn wsX10_day (wsV RX10 155 RX10 yX10_ok wsX10_ok) := goodIn_app (goodIn_of _ (by decide +kernel)) ggX10_day_X10_ok
set_option maxRecDepth 20000 in
theorem ggX10_items_X10_ok : GoodIn wsX10_items wsX10_ok := goodIn_r _ [7, 8, 9, 10] (by decide +kernel) (by decide +kernel)
set_option maxRecDepth 20000 in
theorem gX10_items_X10_ok : GoodIn wsX10_items (wsV RX10 155 RX10 yX10_ok wsX10_ok) := goodIn_app (goodIn_of _ (by decide +kernel)) ggX10_items_X10_ok
set_option maxRecDepth 20000 in
theorem ggX10_sites_X10_ok : GoodIn wsX10_sites wsX10_ok := goodIn_r _ [7, 8, 9, 10] (by decide +kernel) (by decide +kernel)
set_option maxRecDepth 20000 in
theorem gX10_sites_X10_ok : GoodIn wsX10_sites (wsV RX10 155 RX10 yX10_ok wsX10_ok) := goodIn_app (goodIn_of _ (by decide +kernel)) ggX10_sites_X10_ok
set_option maxRecDepth 20000 in
theorem ggX10_lots_X10_ok : GoodIn wsX10_lots wsX10_ok := goodIn_r _ [7, 8, 9, 10] (by decide +kernel) (by decide +kernel)
set_option maxRecDepth 20000 in
theorem gX10_lots_X10_ok : GoodIn wsX10_lots (wsV RX10 155 RX10 yX10_ok wsX10_ok) := goodIn_app (goodIn_of _ (by decide +kernel)) ggX10_lots_X10_ok
set_option maxRecDepth 20000 in
theorem ggX10_orders_X10_ok : GoodIn wsX10_orders wsX10_ok := goodIn_r _ [7, 8, 9, 10] (by decide +kernel) (by decide +kernel)
set_option maxRecDepth 20000 in
theorem gX10_orders_X10_ok : GoodIn wsX10_orders (wsV RX10 155 RX10 yX10_ok wsX10_ok) := goodIn_app (goodIn_of _ (by decide +kernel)) ggX10_orders_X10_ok
set_option maxRecDepth 20000 in
theorem ggX10_transports_X10_ok : GoodIn wsX10_transports wsX10_ok := goodIn_r _ [7, 8, 9, 10] (by decide +kernel) (by decide +kernel)
set_option maxRecDepth 20000 in
theorem gX10_transports_X10_ok : GoodIn wsX10_transports (wsV RX10 155 RX10 yX10_ok wsX10_ok) := goodIn_app (goodIn_of _ (by decide +kernel)) ggX10_transports_X10_ok
set_option maxRecDepth 20000 in
theorem ggX10_ofLot_X10_isIn : GoodIn wsX10_ofLot wsX10_isIn := goodIn_r _ [7] (by decide +kernel) (by decide +kernel)
set_option maxRecDepth 20000 in
theorem gX10_ofLot_X10_isIn : GoodIn wsX10_ofLot (va_wsS RX10 29 yX10_isIn wsX10_isIn) := goodIn_app (goodIn_of _ (by decide +kernel)) ggX10_ofLot_X10_isIn
set_option maxRecDepth 20000 in
theorem ggX10_ofLot_X10_no : GoodIn wsX10_ofLot wsX10_no := goodIn_r _ [11, 1, 27, 28] (by decide +kernel) (by decide +kernel)
set_option maxRecDepth 20000 in
theorem gX10_ofLot_X10_no : GoodIn wsX10_ofLot (wsV RX10 43 RX10 yX10_no wsX10_no) := goodIn_app (goodIn_of _ (by decide +kernel)) ggX10_ofLot_X10_no
set_option maxRecDepth 20000 in
theorem ggX10_ofOrder_X10_isOrder : GoodIn wsX10_ofOrder wsX10_isOrder := goodIn_r _ [6, 7, 8, 9, 10, 5, 11, 31, 32, 33, 34, 35, 36, 37, 38, 39, 40, 41, 42, 43, 44, 45, 46, 47, 48, 49, 50, 51, 52, 53, 54, 55, 56, 57, 58, 59, 60, 61, 62, 63, 64, 65, 66, 67, 68] (by decide +kernel) (by decide +kernel)
set_option maxRecDepth 20000 in
theorem gX10_ofOrder_X10_isOrder : GoodIn wsX10_ofOrder (wsV RX10 129 RX10 yX10_isOrder wsX10_isOrder) := goodIn_app (goodIn_of _ (by decide +kernel)) ggX10_ofOrder_X10_isOrder
set_option maxRecDepth 20000 in
theorem ggX10_ofOrder_X10_no : GoodIn wsX10_ofOrder wsX10_no := goodIn_r _ [15, 1, 31, 32] (by decide +kernel) (by decide +kernel)
set_option maxRecDepth 20000 in
theorem gX10_ofOrder_X10_no : GoodIn wsX10_ofOrder (wsV RX10 43 RX10 yX10_no wsX10_no) := goodIn_app (goodIn_of _ (by decide +kernel)) ggX10_ofOrder_X10_no
set_option maxRecDepth 20000 in
theorem ggX10_reserved_X10_isOrder : GoodIn wsX10_reserved wsX10_isOrder := goodIn_r _ [9, 2, 10, 11, 12, 8, 13, 18, 19, 20, 21, 22, 23, 24, 25, 26, 27, 28, 29, 30, 31, 32, 33, 34, 35, 36, 37, 38, 39, 40, 41, 42, 43, 44, 45, 46, 47, 48, 49, 50, 51, 52, 53, 54, 55] (by decide +kernel) (by decide +kernel)
set_option maxRecDepth 20000 in
theorem gX10_reserved_X10_isOrder : GoodIn wsX10_reserved (wsV RX10 129 RX10 yX10_isOrder wsX10_isOrder) := goodIn_app (goodIn_of _ (by decide +kernel)) ggX10_reserved_X10_isOrder
set_option maxRecDepth 20000 in
theorem ggX10_reserved_X10_no : GoodIn wsX10_reserved wsX10_no := goodIn_r _ [17, 1, 18, 19] (by decide +kernel) (by decide +kernel)
set_option maxRecDepth 20000 in
theorem gX10_reserved_X10_no : GoodIn wsX10_reserved (wsV RX10 43 RX10 yX10_no wsX10_no) := goodIn_app (goodIn_of _ (by decide +kernel)) ggX10_reserved_X10_no
set_option maxRecDepth 20000 in
theorem ggX10_ofTransport_X10_isIn : GoodIn wsX10_ofTransport wsX10_isIn := goodIn_r _ [7] (by decide +kernel) (by decide +kernel)
set_option maxRecDepth 20000 in
theorem gX10_ofTransport_X10_isIn : GoodIn wsX10_ofTransport (va_wsS RX10 29 yX10_isIn wsX10_isIn) := goodIn_app (goodIn_of _ (by decide +kernel)) ggX10_ofTransport_X10_isIn
set_option maxRecDepth 20000 in
theorem ggX10_ofTransport_X10_no : GoodIn wsX10_ofTransport wsX10_no := goodIn_r _ [11, 1, 22, 23] (by decide +kernel) (by decide +kernel)
set_option maxRecDepth 20000 in
theorem gX10_ofTransport_X10_no : GoodIn wsX10_ofTransport (wsV RX10 43 RX10 yX10_no wsX10_no) := goodIn_app (goodIn_of _ (by decide +kernel)) ggX10_ofTransport_X10_no
