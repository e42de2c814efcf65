set_option maxRecDepth 20000 in
theorem ggX8_needItem_X0_has : GoodIn wsX8_needItem wsX0_has := goodIn_q _ [7] [8, 27, 28, 29, 30, 31] rfl (by decide +kernel) (by decide +kernel)
set_option maxRecDepth 20000 in
theorem gX8_needItem_X0_has : GoodIn wsX8_needItem (wsV RX8 287 RX0 yX0_has wsX0_has) := goodIn_app (goodIn_of _ (by decide +kernel)) ggX8_needItem_X0_has
set_option maxRecDepth 20000 in
theorem ggX8_needItem_X8_needIndex : GoodIn wsX8_needItem wsX8_needIndex := goodIn_ca (goodIn_q _ [12] [13, 14] rfl (by decide +kernel) (by decide +kernel)) (goodIn_sub (fun _ h => List.mem_cons_of_mem _ (List.mem_append_right _ h)) (by decide +kernel))
set_option maxRecDepth 20000 in
theorem gX8_needItem_X8_needIndex : GoodIn wsX8_needItem (va_wsS RX8 204 yX8_needIndex wsX8_needIndex) := goodIn_app (goodIn_of _ (by decide +kernel)) ggX8_needItem_X8_needIndex
set_option maxRecDepth 20000 in
theorem ggX8_needSite_X5_has : GoodIn wsX8_needSite wsX5_has := goodIn_q _ [7] [8, 27, 28, 29] rfl (by decide +kernel) (by decide +kernel)
set_option maxRecDepth 20000 in
theorem gX8_needSite_X5_has : GoodIn wsX8_needSite (wsV RX8 288 RX5 yX5_has wsX5_has) := goodIn_app (goodIn_of _ (by decide +kernel)) ggX8_needSite_X5_has
set_option maxRecDepth 20000 in
theorem ggX8_needSite_X8_needIndex : GoodIn wsX8_needSite wsX8_needIndex := goodIn_ca (goodIn_q _ [12] [13, 14] rfl (by decide +kernel) (by decide +kernel)) (goodIn_sub (fun _ h => List.mem_cons_of_mem _ (List.mem_append_right _ h)) (by decide +kernel))
set_option maxRecDepth 20000 in
theorem gX8_needSite_X8_needIndex : GoodIn wsX8_needSite (va_wsS RX8 204 yX8_needIndex wsX8_needIndex) := goodIn_app (goodIn_of _ (by decide +kernel)) ggX8_needSite_X8_needIndex
set_option maxRecDepth 20000 in
theorem ggX8_needLot_X1_has : GoodIn wsX8_needLot wsX1_has := goodIn_q _ [7] [8, 27, 28, 29, 30, 31, 32] rfl (by decide +kernel) (by decide +kernel)
set_option maxRecDepth 20000 in
theorem gX8_needLot_X1_has : GoodIn wsX8_needLot (wsV RX8 289 RX1 yX1_has wsX1_has) := goodIn_app (goodIn_of _ (by decide +kernel)) ggX8_needLot_X1_has
set_option maxRecDepth 20000 in
theorem ggX8_needLot_X8_needIndex : GoodIn wsX8_needLot wsX8_needIndex := goodIn_ca (goodIn_q _ [12] [13, 14] rfl (by decide +kernel) (by decide +kernel)) (goodIn_sub (fun _ h => List.mem_cons_of_mem _ (List.mem_append_right _ h)) (by decide +kernel))
set_option maxRecDepth 20000 in
theorem gX8_needLot_X8_needIndex : GoodIn wsX8_needLot (va_wsS RX8 204 yX8_needIndex wsX8_needIndex) := goodIn_app (goodIn_of _ (by decide +kernel)) ggX8_needLot_X8_needIndex
set_option maxRecDepth 20000 in
theorem ggX8_needOrder_X2_has : GoodIn wsX8_needOrder wsX2_has := goodIn_q _ [7] [8, 27, 28, 29, 30, 31, 32, 33, 34, 35, 36, 37] rfl (by decide +kernel) (by decide +kernel)
set_option maxRecDepth 20000 in
theorem gX8_needOrder_X2_has : GoodIn wsX8_needOrder (wsV RX8 290 RX2 yX2_has wsX2_has) := goodIn_app (goodIn_of _ (by decide +kernel)) ggX8_needOrder_X2_has
set_option maxRecDepth 20000 in
theorem ggX8_needOrder_X8_needIndex : GoodIn wsX8_needOrder wsX8_needIndex := goodIn_ca (goodIn_q _ [12] [13, 14] rfl (by decide +kernel) (by decide +kernel)) (goodIn_sub (fun _ h => List.mem_cons_of_mem _ (List.mem_append_right _ h)) (by decide +kernel))
set_option maxRecDepth 20000 in
theorem gX8_needOrder_X8_needIndex : GoodIn wsX8_needOrder (va_wsS RX8 204 yX8_needIndex wsX8_needIndex) := goodIn_app (goodIn_of _ (by decide +kernel)) ggX8_needOrder_X8_needIndex
set_option maxRecDepth 20000 in
theorem ggX8_needWithin_X8_needArgument : GoodIn wsX8_needWithin wsX8_needArgument := goodIn_ca (goodIn_q _ [4] [5, 6] rfl (by decide +kernel) (by decide +kernel)) (goodIn_sub (fun _ h => List.mem_cons_of_mem _ (List.mem_append_right _ h)) (by decide +kernel))
set_option maxRecDepth 20000 in
theorem gX8_needWithin_X8_needArgument : GoodIn wsX8_needWithin (va_wsS RX8 62 yX8_needArgument wsX8_needArgument) := goodIn_app (goodIn_of _ (by decide +kernel)) ggX8_needWithin_X8_needArgument
