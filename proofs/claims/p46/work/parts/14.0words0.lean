set_option maxRecDepth 20000 in
theorem ggX8_mixCounts_X8_mix : GoodIn wsX8_mixCounts wsX8_mix := goodIn_q _ [17] [18] rfl (by decide +kernel) (by decide +kernel)
set_option maxRecDepth 20000 in
theorem gX8_mixCounts_X8_mix : GoodIn wsX8_mixCounts (va_wsS RX8 281 yX8_mix wsX8_mix) := goodIn_app (goodIn_of _ (by decide +kernel)) ggX8_mixCounts_X8_mix
set_option maxRecDepth 20000 in
theorem ggX8_mixLots_X1_tell : GoodIn wsX8_mixLots wsX1_tell := goodIn_q _ [8] [9, 10, 11, 12, 13, 31, 32, 33, 34, 35, 36] rfl (by decide +kernel) (by decide +kernel)
set_option maxRecDepth 20000 in
theorem gX8_mixLots_X1_tell : GoodIn wsX8_mixLots (wsV RX8 193 RX1 yX1_tell wsX1_tell) := goodIn_app (goodIn_of _ (by decide +kernel)) ggX8_mixLots_X1_tell
set_option maxRecDepth 20000 in
theorem ggX8_mixLots_X8_mix : GoodIn wsX8_mixLots wsX8_mix := goodIn_q _ [17] [18] rfl (by decide +kernel) (by decide +kernel)
set_option maxRecDepth 20000 in
theorem gX8_mixLots_X8_mix : GoodIn wsX8_mixLots (va_wsS RX8 281 yX8_mix wsX8_mix) := goodIn_app (goodIn_of _ (by decide +kernel)) ggX8_mixLots_X8_mix
set_option maxRecDepth 20000 in
theorem ggX8_mixOrders_X2_tell : GoodIn wsX8_mixOrders wsX2_tell := goodIn_q _ [10] [11, 12, 13, 14, 15, 38, 39, 40, 41, 42, 43, 44, 45, 46, 47, 48] rfl (by decide +kernel) (by decide +kernel)
set_option maxRecDepth 20000 in
theorem gX8_mixOrders_X2_tell : GoodIn wsX8_mixOrders (wsV RX8 196 RX2 yX2_tell wsX2_tell) := goodIn_app (goodIn_of _ (by decide +kernel)) ggX8_mixOrders_X2_tell
set_option maxRecDepth 20000 in
theorem ggX8_mixOrders_X8_mix : GoodIn wsX8_mixOrders wsX8_mix := goodIn_q _ [19] [20] rfl (by decide +kernel) (by decide +kernel)
set_option maxRecDepth 20000 in
theorem gX8_mixOrders_X8_mix : GoodIn wsX8_mixOrders (va_wsS RX8 281 yX8_mix wsX8_mix) := goodIn_app (goodIn_of _ (by decide +kernel)) ggX8_mixOrders_X8_mix
set_option maxRecDepth 20000 in
theorem ggX8_mixOrders_X2_heldOf : GoodIn wsX8_mixOrders wsX2_heldOf := goodIn_q _ [24] [25, 38, 39, 40, 41, 42, 43, 44, 45, 46, 47, 48] rfl (by decide +kernel) (by decide +kernel)
set_option maxRecDepth 20000 in
theorem gX8_mixOrders_X2_heldOf : GoodIn wsX8_mixOrders (wsV RX8 197 RX2 yX2_heldOf wsX2_heldOf) := goodIn_app (goodIn_of _ (by decide +kernel)) ggX8_mixOrders_X2_heldOf
set_option maxRecDepth 20000 in
theorem ggX8_mixTransports_X7_tell : GoodIn wsX8_mixTransports wsX7_tell := goodIn_q _ [8] [9, 10, 11, 12, 13, 14, 32, 33, 34, 35, 36, 37, 38] rfl (by decide +kernel) (by decide +kernel)
set_option maxRecDepth 20000 in
theorem gX8_mixTransports_X7_tell : GoodIn wsX8_mixTransports (wsV RX8 207 RX7 yX7_tell wsX7_tell) := goodIn_app (goodIn_of _ (by decide +kernel)) ggX8_mixTransports_X7_tell
set_option maxRecDepth 20000 in
theorem ggX8_mixTransports_X8_mix : GoodIn wsX8_mixTransports wsX8_mix := goodIn_q _ [18] [19] rfl (by decide +kernel) (by decide +kernel)
set_option maxRecDepth 20000 in
theorem gX8_mixTransports_X8_mix : GoodIn wsX8_mixTransports (va_wsS RX8 281 yX8_mix wsX8_mix) := goodIn_app (goodIn_of _ (by decide +kernel)) ggX8_mixTransports_X8_mix
set_option maxRecDepth 20000 in
theorem ggX8_mixRoutes_X5_daysBetween : GoodIn wsX8_mixRoutes wsX5_daysBetween := goodIn_q _ [8, 13, 17] [9, 10, 11, 12, 7, 14, 15, 16, 34, 35, 36] rfl (by decide +kernel) (by decide +kernel)
set_option maxRecDepth 20000 in
theorem gX8_mixRoutes_X5_daysBetween : GoodIn wsX8_mixRoutes (wsV RX8 65 RX5 yX5_daysBetween wsX5_daysBetween) := goodIn_app (goodIn_of _ (by decide +kernel)) ggX8_mixRoutes_X5_daysBetween
set_option maxRecDepth 20000 in
theorem ggX8_mixRoutes_X8_mix : GoodIn wsX8_mixRoutes wsX8_mix := goodIn_q _ [20] [21] rfl (by decide +kernel) (by decide +kernel)
set_option maxRecDepth 20000 in
theorem gX8_mixRoutes_X8_mix : GoodIn wsX8_mixRoutes (va_wsS RX8 281 yX8_mix wsX8_mix) := goodIn_app (goodIn_of _ (by decide +kernel)) ggX8_mixRoutes_X8_mix
