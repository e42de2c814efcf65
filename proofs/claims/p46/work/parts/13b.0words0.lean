set_option maxRecDepth 20000 in
theorem ggX3_make_X6_spareAt : GoodIn wsX3_make wsX6_spareAt := goodIn_q _ [14, 21, 24, 29, 33, 37, 44, 49, 59, 69, 76, 82, 86, 90] [15, 16, 17, 18, 19, 20, 22, 23, 25, 26, 27, 28, 30, 31, 32, 34, 35, 36, 13, 38, 39, 40, 41, 42, 43, 45, 46, 47, 48, 50, 51, 52, 53, 54, 55, 56, 57, 58, 60, 61, 62, 63, 64, 65, 66, 67, 68, 70, 71, 72, 73, 74, 75, 77, 78, 79, 80, 81, 83, 84, 85, 87, 88, 89, 91, 121, 122, 123, 124, 125, 126, 127, 128, 129, 140, 141, 142, 143, 144, 145, 146, 147, 148, 149, 150, 151, 152, 153, 154, 155, 156, 157, 158, 159, 160, 161, 162, 163, 164, 165, 166, 167, 168] rfl (by decide +kernel) (by decide +kernel)
set_option maxRecDepth 20000 in
theorem gX3_make_X6_spareAt : GoodIn wsX3_make (wsV RX3 45 RX6 yX6_spareAt wsX6_spareAt) := goodIn_app (goodIn_of _ (by decide +kernel)) ggX3_make_X6_spareAt
set_option maxRecDepth 20000 in
theorem ggX3_make_X6_lackAt : GoodIn wsX3_make wsX6_lackAt := goodIn_q _ [95, 24, 29, 33, 37, 44, 49, 59, 69, 76] [15, 96, 22, 23, 20, 25, 26, 27, 28, 30, 31, 32, 34, 35, 36, 13, 17, 38, 39, 40, 41, 42, 43, 45, 46, 47, 48, 50, 51, 52, 53, 54, 55, 56, 57, 58, 60, 61, 62, 63, 64, 65, 66, 67, 68, 70, 71, 72, 73, 74, 75, 77, 78, 121, 122, 123, 124, 125, 126, 127, 128, 129, 140, 141, 142, 143, 144, 145, 146, 147, 148, 149, 150, 151, 152, 153, 154, 155, 156, 157, 158, 159, 160, 161, 162, 163, 164, 165, 166, 167, 168] rfl (by decide +kernel) (by decide +kernel)
set_option maxRecDepth 20000 in
theorem gX3_make_X6_lackAt : GoodIn wsX3_make (wsV RX3 49 RX6 yX6_lackAt wsX6_lackAt) := goodIn_app (goodIn_of _ (by decide +kernel)) ggX3_make_X6_lackAt
set_option maxRecDepth 20000 in
theorem ggX3_make_X8_pair : GoodIn wsX3_make wsX8_pair := goodIn_q _ [33] [] rfl (by decide +kernel) (by decide +kernel)
set_option maxRecDepth 20000 in
theorem gX3_make_X8_pair_n52 : GoodIn wsX3_make (wsX8_pair) := ggX3_make_X8_pair
set_option maxRecDepth 20000 in
theorem ggX3_make_X3_costOf : GoodIn wsX3_make wsX3_costOf := goodIn_q _ [100] [] rfl (by decide +kernel) (by decide +kernel)
set_option maxRecDepth 20000 in
theorem gX3_make_X3_costOf : GoodIn wsX3_make (va_wsS RX3 58 yX3_costOf wsX3_costOf) := goodIn_app (goodIn_of _ (by decide +kernel)) ggX3_make_X3_costOf
set_option maxRecDepth 20000 in
theorem ggX3_make_X3_findWays : GoodIn wsX3_make wsX3_findWays := goodIn_q _ [104, 111, 33] [3, 105, 4, 106, 107, 108, 109, 110, 99, 7, 6, 31, 32, 133, 134, 135, 136, 137, 138, 139] rfl (by decide +kernel) (by decide +kernel)
set_option maxRecDepth 20000 in
theorem gX3_make_X3_findWays : GoodIn wsX3_make (wsV RX3 63 RX3 yX3_findWays wsX3_findWays) := goodIn_app (goodIn_of _ (by decide +kernel)) ggX3_make_X3_findWays
set_option maxRecDepth 20000 in
theorem ggX3_make_X3_cheapestEnd : GoodIn wsX3_make wsX3_cheapestEnd := goodIn_q _ [115] [3, 5, 105, 106, 133, 134, 135, 136, 137, 138, 139] rfl (by decide +kernel) (by decide +kernel)
set_option maxRecDepth 20000 in
theorem gX3_make_X3_cheapestEnd : GoodIn wsX3_make (wsV RX3 66 RX3 yX3_cheapestEnd wsX3_cheapestEnd) := goodIn_app (goodIn_of _ (by decide +kernel)) ggX3_make_X3_cheapestEnd
set_option maxRecDepth 20000 in
theorem ggX3_make_X3_sendAlong : GoodIn wsX3_make wsX3_sendAlong := goodIn_q _ [119, 21, 33] [5, 107, 7, 6, 120, 19, 20, 4, 31, 32, 133, 134, 135, 136, 137, 138, 139] rfl (by decide +kernel) (by decide +kernel)
set_option maxRecDepth 20000 in
theorem gX3_make_X3_sendAlong : GoodIn wsX3_make (wsV RX3 70 RX3 yX3_sendAlong wsX3_sendAlong) := goodIn_app (goodIn_of _ (by decide +kernel)) ggX3_make_X3_sendAlong
