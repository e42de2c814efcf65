set_option maxRecDepth 20000 in
theorem ggX4_dropFilledFrom_X8_pair : GoodIn wsX4_dropFilledFrom wsX8_pair := goodIn_q _ [5] [] rfl (by decide +kernel) (by decide +kernel)
set_option maxRecDepth 20000 in
theorem gX4_dropFilledFrom_X8_pair_n28 : GoodIn wsX4_dropFilledFrom (wsX8_pair) := ggX4_dropFilledFrom_X8_pair
set_option maxRecDepth 20000 in
theorem ggX8_addItem_X8_needWithin : GoodIn wsX8_addItem wsX8_needWithin := goodIn_ca (goodIn_q _ [7, 10] [8, 9, 6, 11, 12] rfl (by decide +kernel) (by decide +kernel)) (goodIn_sub (fun _ h => List.mem_cons_of_mem _ (List.mem_append_left _ (List.mem_append_right _ h))) (by decide +kernel))
set_option maxRecDepth 20000 in
theorem gX8_addItem_X8_needWithin : GoodIn wsX8_addItem (va_wsS RX8 26 yX8_needWithin wsX8_needWithin) := goodIn_app (goodIn_of _ (by decide +kernel)) ggX8_addItem_X8_needWithin
set_option maxRecDepth 20000 in
theorem ggX8_addItem_X8_needState : GoodIn wsX8_addItem wsX8_needState := goodIn_ca (goodIn_q _ [15] [16, 17] rfl (by decide +kernel) (by decide +kernel)) (goodIn_sub (fun _ h => List.mem_cons_of_mem _ (List.mem_append_right _ h)) (by decide +kernel))
set_option maxRecDepth 20000 in
theorem gX8_addItem_X8_needState : GoodIn wsX8_addItem (va_wsS RX8 40 yX8_needState wsX8_needState) := goodIn_app (goodIn_of _ (by decide +kernel)) ggX8_addItem_X8_needState
set_option maxRecDepth 20000 in
theorem ggX8_addItem_X0_add : GoodIn wsX8_addItem wsX0_add := goodIn_q _ [22] [23, 24, 25, 26, 27, 40, 41, 42, 43, 44] rfl (by decide +kernel) (by decide +kernel)
set_option maxRecDepth 20000 in
theorem gX8_addItem_X0_add : GoodIn wsX8_addItem (wsV RX8 44 RX0 yX0_add wsX0_add) := goodIn_app (goodIn_of _ (by decide +kernel)) ggX8_addItem_X0_add
set_option maxRecDepth 20000 in
theorem ggX8_addSite_X8_needWithin : GoodIn wsX8_addSite wsX8_needWithin := goodIn_ca (goodIn_q _ [7, 10] [8, 9, 6, 11, 12] rfl (by decide +kernel) (by decide +kernel)) (goodIn_sub (fun _ h => List.mem_cons_of_mem _ (List.mem_append_left _ (List.mem_append_right _ h))) (by decide +kernel))
set_option maxRecDepth 20000 in
theorem gX8_addSite_X8_needWithin : GoodIn wsX8_addSite (va_wsS RX8 26 yX8_needWithin wsX8_needWithin) := goodIn_app (goodIn_of _ (by decide +kernel)) ggX8_addSite_X8_needWithin
set_option maxRecDepth 20000 in
theorem ggX8_addSite_X8_needState : GoodIn wsX8_addSite wsX8_needState := goodIn_ca (goodIn_q _ [15] [16, 17] rfl (by decide +kernel) (by decide +kernel)) (goodIn_sub (fun _ h => List.mem_cons_of_mem _ (List.mem_append_right _ h)) (by decide +kernel))
set_option maxRecDepth 20000 in
theorem gX8_addSite_X8_needState : GoodIn wsX8_addSite (va_wsS RX8 40 yX8_needState wsX8_needState) := goodIn_app (goodIn_of _ (by decide +kernel)) ggX8_addSite_X8_needState
set_option maxRecDepth 20000 in
theorem ggX8_addSite_X5_add : GoodIn wsX8_addSite wsX5_add := goodIn_q _ [22] [23, 24, 37, 38, 39] rfl (by decide +kernel) (by decide +kernel)
set_option maxRecDepth 20000 in
theorem gX8_addSite_X5_add : GoodIn wsX8_addSite (wsV RX8 55 RX5 yX5_add wsX5_add) := goodIn_app (goodIn_of _ (by decide +kernel)) ggX8_addSite_X5_add
set_option maxRecDepth 20000 in
theorem ggX8_setRoute_X8_needSite : GoodIn wsX8_setRoute wsX8_needSite := goodIn_ca (goodIn_q _ [9, 14, 18] [1, 2, 10, 11, 12, 13, 15, 16, 17, 8, 19, 20, 45, 46, 47, 48, 49, 50, 51, 52, 53, 54, 55, 56, 57, 58, 59] rfl (by decide +kernel) (by decide +kernel)) (goodIn_sub (fun _ h => List.mem_cons_of_mem _ (List.mem_append_left _ (List.mem_append_right _ h))) (by decide +kernel))
set_option maxRecDepth 20000 in
theorem gX8_setRoute_X8_needSite : GoodIn wsX8_setRoute (wsV RX8 58 RX8 yX8_needSite wsX8_needSite) := goodIn_app (goodIn_of _ (by decide +kernel)) ggX8_setRoute_X8_needSite
set_option maxRecDepth 20000 in
theorem ggX8_setRoute_X8_needArgument : GoodIn wsX8_setRoute wsX8_needArgument := goodIn_ca (goodIn_q _ [23] [24, 25] rfl (by decide +kernel) (by decide +kernel)) (goodIn_sub (fun _ h => List.mem_cons_of_mem _ (List.mem_append_right _ h)) (by decide +kernel))
set_option maxRecDepth 20000 in
theorem gX8_setRoute_X8_needArgument : GoodIn wsX8_setRoute (va_wsS RX8 62 yX8_needArgument wsX8_needArgument) := goodIn_app (goodIn_of _ (by decide +kernel)) ggX8_setRoute_X8_needArgument
set_option maxRecDepth 20000 in
theorem ggX8_setRoute_X8_needWithin : GoodIn wsX8_setRoute wsX8_needWithin := goodIn_ca (goodIn_q _ [28, 23] [21, 22, 8, 24, 25] rfl (by decide +kernel) (by decide +kernel)) (goodIn_sub (fun _ h => List.mem_cons_of_mem _ (List.mem_append_right _ h)) (by decide +kernel))
set_option maxRecDepth 20000 in
theorem gX8_setRoute_X8_needWithin : GoodIn wsX8_setRoute (va_wsS RX8 26 yX8_needWithin wsX8_needWithin) := goodIn_app (goodIn_of _ (by decide +kernel)) ggX8_setRoute_X8_needWithin
set_option maxRecDepth 20000 in
theorem ggX8_setRoute_X5_daysBetween : GoodIn wsX8_setRoute wsX5_daysBetween := goodIn_q _ [32, 14, 36] [33, 34, 11, 12, 13, 15, 35, 8, 57, 58, 59] rfl (by decide +kernel) (by decide +kernel)
set_option maxRecDepth 20000 in
theorem gX8_setRoute_X5_daysBetween : GoodIn wsX8_setRoute (wsV RX8 65 RX5 yX5_daysBetween wsX5_daysBetween) := goodIn_app (goodIn_of _ (by decide +kernel)) ggX8_setRoute_X5_daysBetween
set_option maxRecDepth 20000 in
theorem ggX8_setRoute_X8_pair : GoodIn wsX8_setRoute wsX8_pair := goodIn_q _ [36] [] rfl (by decide +kernel) (by decide +kernel)
set_option maxRecDepth 20000 in
theorem gX8_setRoute_X8_pair : GoodIn wsX8_setRoute (va_wsS RX8 73 yX8_pair wsX8_pair) := goodIn_app (goodIn_of _ (by decide +kernel)) ggX8_setRoute_X8_pair
set_option maxRecDepth 20000 in
theorem ggX8_setRoute_X4_dropFilledFrom : GoodIn wsX8_setRoute wsX4_dropFilledFrom := goodIn_q _ [42, 36] [43, 44, 35, 8, 60, 61, 62, 63, 64] rfl (by decide +kernel) (by decide +kernel)
set_option maxRecDepth 20000 in
theorem gX8_setRoute_X4_dropFilledFrom : GoodIn wsX8_setRoute (wsV RX8 80 RX4 yX4_dropFilledFrom wsX4_dropFilledFrom) := goodIn_app (goodIn_of _ (by decide +kernel)) ggX8_setRoute_X4_dropFilledFrom
set_option maxRecDepth 20000 in
theorem ggX8_setPolicy_X8_needItem : GoodIn wsX8_setPolicy wsX8_needItem := goodIn_ca (goodIn_q _ [13, 19, 23] [1, 14, 15, 16, 17, 18, 20, 21, 22, 12, 24, 25, 59, 60, 61, 62, 63, 64, 65, 66, 67, 68, 69, 70, 76, 77, 78, 79, 80] rfl (by decide +kernel) (by decide +kernel)) (goodIn_sub (fun _ h => List.mem_cons_of_mem _ (List.mem_append_left _ (List.mem_append_right _ h))) (by decide +kernel))
set_option maxRecDepth 20000 in
theorem gX8_setPolicy_X8_needItem : GoodIn wsX8_setPolicy (wsV RX8 86 RX8 yX8_needItem wsX8_needItem) := goodIn_app (goodIn_of _ (by decide +kernel)) ggX8_setPolicy_X8_needItem
set_option maxRecDepth 20000 in
theorem ggX8_setPolicy_X8_needSite : GoodIn wsX8_setPolicy wsX8_needSite := goodIn_ca (goodIn_q _ [29, 34, 23] [1, 2, 30, 31, 32, 33, 35, 21, 22, 12, 24, 25, 59, 60, 61, 62, 63, 64, 65, 66, 67, 68, 69, 70, 81, 82, 83] rfl (by decide +kernel) (by decide +kernel)) (goodIn_sub (fun _ h => List.mem_cons_of_mem _ (List.mem_append_left _ (List.mem_append_right _ h))) (by decide +kernel))
set_option maxRecDepth 20000 in
theorem gX8_setPolicy_X8_needSite : GoodIn wsX8_setPolicy (wsV RX8 58 RX8 yX8_needSite wsX8_needSite) := goodIn_app (goodIn_of _ (by decide +kernel)) ggX8_setPolicy_X8_needSite
set_option maxRecDepth 20000 in
theorem ggX8_setPolicy_X8_needWithin : GoodIn wsX8_setPolicy wsX8_needWithin := goodIn_ca (goodIn_q _ [38, 41] [39, 40, 12, 42, 43] rfl (by decide +kernel) (by decide +kernel)) (goodIn_sub (fun _ h => List.mem_cons_of_mem _ (List.mem_append_right _ h)) (by decide +kernel))
set_option maxRecDepth 20000 in
theorem gX8_setPolicy_X8_needWithin : GoodIn wsX8_setPolicy (va_wsS RX8 26 yX8_needWithin wsX8_needWithin) := goodIn_app (goodIn_of _ (by decide +kernel)) ggX8_setPolicy_X8_needWithin
set_option maxRecDepth 20000 in
theorem ggX8_setPolicy_X5_daysBetween : GoodIn wsX8_setPolicy wsX5_daysBetween := goodIn_q _ [47, 34, 51] [48, 49, 31, 32, 33, 35, 50, 12, 81, 82, 83] rfl (by decide +kernel) (by decide +kernel)
set_option maxRecDepth 20000 in
theorem gX8_setPolicy_X5_daysBetween : GoodIn wsX8_setPolicy (wsV RX8 65 RX5 yX5_daysBetween wsX5_daysBetween) := goodIn_app (goodIn_of _ (by decide +kernel)) ggX8_setPolicy_X5_daysBetween
set_option maxRecDepth 20000 in
theorem ggX8_setPolicy_X8_needArgument : GoodIn wsX8_setPolicy wsX8_needArgument := goodIn_ca (goodIn_q _ [41] [42, 43] rfl (by decide +kernel) (by decide +kernel)) (goodIn_sub (fun _ h => List.mem_cons_of_mem _ (List.mem_append_right _ h)) (by decide +kernel))
set_option maxRecDepth 20000 in
theorem gX8_setPolicy_X8_needArgument : GoodIn wsX8_setPolicy (va_wsS RX8 62 yX8_needArgument wsX8_needArgument) := goodIn_app (goodIn_of _ (by decide +kernel)) ggX8_setPolicy_X8_needArgument
set_option maxRecDepth 20000 in
theorem ggX8_setPolicy_X4_stands : GoodIn wsX8_setPolicy wsX4_stands := goodIn_q _ [56, 51] [57, 50, 12, 71, 72, 73, 74, 75] rfl (by decide +kernel) (by decide +kernel)
set_option maxRecDepth 20000 in
theorem gX8_setPolicy_X4_stands : GoodIn wsX8_setPolicy (wsV RX8 89 RX4 yX4_stands wsX4_stands) := goodIn_app (goodIn_of _ (by decide +kernel)) ggX8_setPolicy_X4_stands
set_option maxRecDepth 20000 in
theorem ggX8_setPolicy_X8_pair : GoodIn wsX8_setPolicy wsX8_pair := goodIn_q _ [51] [] rfl (by decide +kernel) (by decide +kernel)
set_option maxRecDepth 20000 in
theorem gX8_setPolicy_X8_pair : GoodIn wsX8_setPolicy (va_wsS RX8 73 yX8_pair wsX8_pair) := goodIn_app (goodIn_of _ (by decide +kernel)) ggX8_setPolicy_X8_pair
set_option maxRecDepth 20000 in
theorem ggX8_receive_X8_needItem : GoodIn wsX8_receive wsX8_needItem := goodIn_ca (goodIn_q _ [11, 16, 20] [1, 5, 12, 13, 14, 15, 17, 18, 19, 10, 21, 22, 77, 78, 79, 80, 81, 82, 83, 84, 85, 86, 87, 88, 95, 96, 97, 98, 99] rfl (by decide +kernel) (by decide +kernel)) (goodIn_sub (fun _ h => List.mem_cons_of_mem _ (List.mem_append_left _ (List.mem_append_left _ (List.mem_append_right _ h)))) (by decide +kernel))
set_option maxRecDepth 20000 in
theorem gX8_receive_X8_needItem : GoodIn wsX8_receive (wsV RX8 86 RX8 yX8_needItem wsX8_needItem) := goodIn_app (goodIn_of _ (by decide +kernel)) ggX8_receive_X8_needItem
set_option maxRecDepth 20000 in
theorem ggX8_receive_X8_needSite : GoodIn wsX8_receive wsX8_needSite := goodIn_ca (goodIn_q _ [26, 32, 20] [1, 27, 28, 29, 30, 31, 33, 18, 19, 10, 21, 22, 77, 78, 79, 80, 81, 82, 83, 84, 85, 86, 87, 88, 100, 101, 102] rfl (by decide +kernel) (by decide +kernel)) (goodIn_sub (fun _ h => List.mem_cons_of_mem _ (List.mem_append_left _ (List.mem_append_left _ (List.mem_append_right _ h)))) (by decide +kernel))
set_option maxRecDepth 20000 in
theorem gX8_receive_X8_needSite : GoodIn wsX8_receive (wsV RX8 58 RX8 yX8_needSite wsX8_needSite) := goodIn_app (goodIn_of _ (by decide +kernel)) ggX8_receive_X8_needSite
set_option maxRecDepth 20000 in
theorem ggX8_receive_X8_needWithin : GoodIn wsX8_receive wsX8_needWithin := goodIn_ca (goodIn_q _ [36, 39] [37, 38, 10, 40, 41] rfl (by decide +kernel) (by decide +kernel)) (goodIn_sub (fun _ h => List.mem_cons_of_mem _ (List.mem_append_left _ (List.mem_append_right _ h))) (by decide +kernel))
set_option maxRecDepth 20000 in
theorem gX8_receive_X8_needWithin : GoodIn wsX8_receive (va_wsS RX8 26 yX8_needWithin wsX8_needWithin) := goodIn_app (goodIn_of _ (by decide +kernel)) ggX8_receive_X8_needWithin
set_option maxRecDepth 20000 in
theorem ggX8_receive_X8_needState : GoodIn wsX8_receive wsX8_needState := goodIn_ca (goodIn_q _ [44] [45, 46] rfl (by decide +kernel) (by decide +kernel)) (goodIn_sub (fun _ h => List.mem_cons_of_mem _ (List.mem_append_right _ h)) (by decide +kernel))
set_option maxRecDepth 20000 in
theorem gX8_receive_X8_needState : GoodIn wsX8_receive (va_wsS RX8 40 yX8_needState wsX8_needState) := goodIn_app (goodIn_of _ (by decide +kernel)) ggX8_receive_X8_needState
set_option maxRecDepth 20000 in
theorem ggX8_receive_X6_roomAt : GoodIn wsX8_receive wsX6_roomAt := goodIn_q _ [51, 32, 60] [52, 53, 54, 55, 29, 30, 31, 33, 56, 57, 58, 59, 61, 62, 63, 80, 81, 82, 83, 84, 85, 86, 87, 88, 100, 101, 102, 89, 90, 91, 92, 93, 94] rfl (by decide +kernel) (by decide +kernel)
set_option maxRecDepth 20000 in
theorem gX8_receive_X6_roomAt : GoodIn wsX8_receive (wsV RX8 116 RX6 yX6_roomAt wsX6_roomAt) := goodIn_app (goodIn_of _ (by decide +kernel)) ggX8_receive_X6_roomAt
set_option maxRecDepth 20000 in
theorem ggX8_receive_X0_priceOf : GoodIn wsX8_receive wsX0_priceOf := goodIn_q _ [67, 16] [68, 69, 13, 14, 15, 17, 95, 96, 97, 98, 99] rfl (by decide +kernel) (by decide +kernel)
set_option maxRecDepth 20000 in
theorem gX8_receive_X0_priceOf : GoodIn wsX8_receive (wsV RX8 122 RX0 yX0_priceOf wsX0_priceOf) := goodIn_app (goodIn_of _ (by decide +kernel)) ggX8_receive_X0_priceOf
set_option maxRecDepth 20000 in
theorem ggX8_receive_X1_add : GoodIn wsX8_receive wsX1_add := goodIn_q _ [73] [61, 74, 62, 63, 75, 76, 89, 90, 91, 92, 93, 94] rfl (by decide +kernel) (by decide +kernel)
set_option maxRecDepth 20000 in
theorem gX8_receive_X1_add : GoodIn wsX8_receive (wsV RX8 128 RX1 yX1_add wsX1_add) := goodIn_app (goodIn_of _ (by decide +kernel)) ggX8_receive_X1_add
set_option maxRecDepth 20000 in
theorem ggX8_order_X8_needItem : GoodIn wsX8_order wsX8_needItem := goodIn_ca (goodIn_q _ [9, 15, 19] [1, 10, 11, 12, 13, 14, 16, 17, 18, 8, 20, 21, 107, 108, 109, 110, 111, 112, 113, 114, 115, 116, 117, 118, 130, 131, 132, 133, 134] rfl (by decide +kernel) (by decide +kernel)) (goodIn_sub (fun _ h => List.mem_cons_of_mem _ (List.mem_append_left _ (List.mem_append_left _ (List.mem_append_right _ h)))) (by decide +kernel))
set_option maxRecDepth 20000 in
theorem gX8_order_X8_needItem : GoodIn wsX8_order (wsV RX8 86 RX8 yX8_needItem wsX8_needItem) := goodIn_app (goodIn_of _ (by decide +kernel)) ggX8_order_X8_needItem
set_option maxRecDepth 20000 in
theorem ggX8_order_X8_needSite : GoodIn wsX8_order wsX8_needSite := goodIn_ca (goodIn_q _ [25, 31, 19] [1, 26, 27, 28, 29, 30, 32, 17, 18, 8, 20, 21, 107, 108, 109, 110, 111, 112, 113, 114, 115, 116, 117, 118, 135, 136, 137] rfl (by decide +kernel) (by decide +kernel)) (goodIn_sub (fun _ h => List.mem_cons_of_mem _ (List.mem_append_left _ (List.mem_append_left _ (List.mem_append_right _ h)))) (by decide +kernel))
set_option maxRecDepth 20000 in
theorem gX8_order_X8_needSite : GoodIn wsX8_order (wsV RX8 58 RX8 yX8_needSite wsX8_needSite) := goodIn_app (goodIn_of _ (by decide +kernel)) ggX8_order_X8_needSite
set_option maxRecDepth 20000 in
theorem ggX8_order_X8_needWithin : GoodIn wsX8_order wsX8_needWithin := goodIn_ca (goodIn_q _ [35, 38] [36, 37, 8, 39, 40] rfl (by decide +kernel) (by decide +kernel)) (goodIn_sub (fun _ h => List.mem_cons_of_mem _ (List.mem_append_left _ (List.mem_append_right _ h))) (by decide +kernel))
set_option maxRecDepth 20000 in
theorem gX8_order_X8_needWithin : GoodIn wsX8_order (va_wsS RX8 26 yX8_needWithin wsX8_needWithin) := goodIn_app (goodIn_of _ (by decide +kernel)) ggX8_order_X8_needWithin
