set_option maxRecDepth 20000 in
theorem ggX6_release_X2_heldOf : GoodIn wsX6_release wsX2_heldOf := goodIn_q _ [8] [9, 33, 34, 35, 36, 37, 38, 39, 40, 41, 42, 43] rfl (by decide +kernel) (by decide +kernel)
set_option maxRecDepth 20000 in
theorem gX6_release_X2_heldOf : GoodIn wsX6_release (wsV RX6 151 RX2 yX2_heldOf wsX2_heldOf) := goodIn_app (goodIn_of _ (by decide +kernel)) ggX6_release_X2_heldOf
set_option maxRecDepth 20000 in
theorem ggX6_release_X6_hold : GoodIn wsX6_release wsX6_hold := goodIn_q _ [14] [3, 15, 16, 1, 17, 18, 19, 20, 21, 22, 23, 24, 25, 26, 33, 34, 35, 36, 37, 38, 39, 40, 41, 42, 43, 27, 28, 29, 30, 31, 32] rfl (by decide +kernel) (by decide +kernel)
set_option maxRecDepth 20000 in
theorem gX6_release_X6_hold : GoodIn wsX6_release (wsV RX6 154 RX6 yX6_hold wsX6_hold) := goodIn_app (goodIn_of _ (by decide +kernel)) ggX6_release_X6_hold
set_option maxRecDepth 20000 in
theorem ggX6_reserveFor_X2_missing : GoodIn wsX6_reserveFor wsX2_missing := goodIn_q _ [19] [20, 21, 55, 56, 57, 58, 59, 60, 61, 62, 63, 64, 65] rfl (by decide +kernel) (by decide +kernel)
set_option maxRecDepth 20000 in
theorem gX6_reserveFor_X2_missing : GoodIn wsX6_reserveFor (wsV RX6 164 RX2 yX2_missing wsX2_missing) := goodIn_app (goodIn_of _ (by decide +kernel)) ggX6_reserveFor_X2_missing
set_option maxRecDepth 20000 in
theorem ggX6_reserveFor_X1_firstFree : GoodIn wsX6_reserveFor wsX1_firstFree := goodIn_q _ [26, 34] [27, 28, 29, 30, 31, 32, 33, 25, 35, 36, 66, 67, 68, 69, 70, 71] rfl (by decide +kernel) (by decide +kernel)
set_option maxRecDepth 20000 in
theorem gX6_reserveFor_X1_firstFree : GoodIn wsX6_reserveFor (wsV RX6 173 RX1 yX1_firstFree wsX1_firstFree) := goodIn_app (goodIn_of _ (by decide +kernel)) ggX6_reserveFor_X1_firstFree
set_option maxRecDepth 20000 in
theorem ggX6_reserveFor_X1_freeOf : GoodIn wsX6_reserveFor wsX1_freeOf := goodIn_q _ [34] [35, 36, 66, 67, 68, 69, 70, 71] rfl (by decide +kernel) (by decide +kernel)
set_option maxRecDepth 20000 in
theorem gX6_reserveFor_X1_freeOf : GoodIn wsX6_reserveFor (wsV RX6 177 RX1 yX1_freeOf wsX1_freeOf) := goodIn_app (goodIn_of _ (by decide +kernel)) ggX6_reserveFor_X1_freeOf
set_option maxRecDepth 20000 in
theorem ggX6_reserveFor_X6_hold : GoodIn wsX6_reserveFor wsX6_hold := goodIn_q _ [42] [1, 43, 44, 9, 45, 46, 47, 48, 49, 50, 51, 52, 53, 54, 55, 56, 57, 58, 59, 60, 61, 62, 63, 64, 65, 66, 67, 68, 69, 70, 71] rfl (by decide +kernel) (by decide +kernel)
set_option maxRecDepth 20000 in
theorem gX6_reserveFor_X6_hold : GoodIn wsX6_reserveFor (wsV RX6 154 RX6 yX6_hold wsX6_hold) := goodIn_app (goodIn_of _ (by decide +kernel)) ggX6_reserveFor_X6_hold
set_option maxRecDepth 20000 in
theorem ggX6_shipOrder_X2_heldOf : GoodIn wsX6_shipOrder wsX2_heldOf := goodIn_q _ [17] [18, 54, 55, 56, 57, 58, 59, 60, 61, 62, 63, 64] rfl (by decide +kernel) (by decide +kernel)
set_option maxRecDepth 20000 in
theorem gX6_shipOrder_X2_heldOf : GoodIn wsX6_shipOrder (wsV RX6 151 RX2 yX2_heldOf wsX2_heldOf) := goodIn_app (goodIn_of _ (by decide +kernel)) ggX6_shipOrder_X2_heldOf
set_option maxRecDepth 20000 in
theorem ggX6_shipOrder_X6_hold : GoodIn wsX6_shipOrder wsX6_hold := goodIn_q _ [23] [3, 24, 25, 1, 26, 39, 40, 41, 42, 43, 44, 45, 46, 47, 54, 55, 56, 57, 58, 59, 60, 61, 62, 63, 64, 48, 49, 50, 51, 52, 53] rfl (by decide +kernel) (by decide +kernel)
set_option maxRecDepth 20000 in
theorem gX6_shipOrder_X6_hold : GoodIn wsX6_shipOrder (wsV RX6 154 RX6 yX6_hold wsX6_hold) := goodIn_app (goodIn_of _ (by decide +kernel)) ggX6_shipOrder_X6_hold
set_option maxRecDepth 20000 in
theorem ggX6_shipOrder_X0_priceOf : GoodIn wsX6_shipOrder wsX0_priceOf := goodIn_q _ [31, 36] [32, 33, 34, 35, 30, 37, 65, 66, 67, 68, 69] rfl (by decide +kernel) (by decide +kernel)
set_option maxRecDepth 20000 in
theorem gX6_shipOrder_X0_priceOf : GoodIn wsX6_shipOrder (wsV RX6 202 RX0 yX0_priceOf wsX0_priceOf) := goodIn_app (goodIn_of _ (by decide +kernel)) ggX6_shipOrder_X0_priceOf
set_option maxRecDepth 20000 in
theorem ggX6_shipOrder_X0_has : GoodIn wsX6_shipOrder wsX0_has := goodIn_q _ [36] [37, 65, 66, 67, 68, 69] rfl (by decide +kernel) (by decide +kernel)
set_option maxRecDepth 20000 in
theorem gX6_shipOrder_X0_has : GoodIn wsX6_shipOrder (wsV RX6 205 RX0 yX0_has wsX0_has) := goodIn_app (goodIn_of _ (by decide +kernel)) ggX6_shipOrder_X0_has
set_option maxRecDepth 20000 in
theorem ggX6_waste_X0_priceOf : GoodIn wsX6_waste wsX0_priceOf := goodIn_q _ [7, 12] [8, 9, 10, 11, 6, 13, 23, 24, 25, 26, 27] rfl (by decide +kernel) (by decide +kernel)
set_option maxRecDepth 20000 in
theorem gX6_waste_X0_priceOf : GoodIn wsX6_waste (wsV RX6 202 RX0 yX0_priceOf wsX0_priceOf) := goodIn_app (goodIn_of _ (by decide +kernel)) ggX6_waste_X0_priceOf
set_option maxRecDepth 20000 in
theorem ggX7_add_X7_full : GoodIn wsX7_add wsX7_full := goodIn_q _ [12] [2, 13, 14, 15, 16, 17, 18, 19] rfl (by decide +kernel) (by decide +kernel)
set_option maxRecDepth 20000 in
theorem gX7_add_X7_full : GoodIn wsX7_add (wsV RX7 34 RX7 yX7_full wsX7_full) := goodIn_app (goodIn_of _ (by decide +kernel)) ggX7_add_X7_full
