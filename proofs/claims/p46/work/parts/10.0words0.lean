set_option maxRecDepth 20000 in
theorem ggX6_becomeLike_X0_becomeLike : GoodIn wsX6_becomeLike wsX0_becomeLike := goodIn_q _ [17] [18, 19, 20, 10, 11, 12, 21, 22, 23, 95, 96, 97, 98, 99] rfl (by decide +kernel) (by decide +kernel)
set_option maxRecDepth 20000 in
theorem gX6_becomeLike_X0_becomeLike : GoodIn wsX6_becomeLike (wsV RX6 64 RX0 yX0_becomeLike wsX0_becomeLike) := goodIn_app (goodIn_of _ (by decide +kernel)) ggX6_becomeLike_X0_becomeLike
set_option maxRecDepth 20000 in
theorem ggX6_becomeLike_X5_becomeLike : GoodIn wsX6_becomeLike wsX5_becomeLike := goodIn_q _ [28] [29, 30, 31, 10, 11, 12, 32, 100, 101, 102] rfl (by decide +kernel) (by decide +kernel)
set_option maxRecDepth 20000 in
theorem gX6_becomeLike_X5_becomeLike : GoodIn wsX6_becomeLike (wsV RX6 68 RX5 yX5_becomeLike wsX5_becomeLike) := goodIn_app (goodIn_of _ (by decide +kernel)) ggX6_becomeLike_X5_becomeLike
set_option maxRecDepth 20000 in
theorem ggX6_becomeLike_X4_becomeLike : GoodIn wsX6_becomeLike wsX4_becomeLike := goodIn_q _ [37] [38, 39, 40, 10, 11, 12, 41, 42, 43, 103, 104, 105, 106, 107] rfl (by decide +kernel) (by decide +kernel)
set_option maxRecDepth 20000 in
theorem gX6_becomeLike_X4_becomeLike : GoodIn wsX6_becomeLike (wsV RX6 71 RX4 yX4_becomeLike wsX4_becomeLike) := goodIn_app (goodIn_of _ (by decide +kernel)) ggX6_becomeLike_X4_becomeLike
set_option maxRecDepth 20000 in
theorem ggX6_becomeLike_X1_becomeLike : GoodIn wsX6_becomeLike wsX1_becomeLike := goodIn_q _ [48] [49, 50, 51, 10, 11, 12, 52, 53, 54, 55, 108, 109, 110, 111, 112, 113] rfl (by decide +kernel) (by decide +kernel)
set_option maxRecDepth 20000 in
theorem gX6_becomeLike_X1_becomeLike : GoodIn wsX6_becomeLike (wsV RX6 74 RX1 yX1_becomeLike wsX1_becomeLike) := goodIn_app (goodIn_of _ (by decide +kernel)) ggX6_becomeLike_X1_becomeLike
set_option maxRecDepth 20000 in
theorem ggX6_becomeLike_X2_becomeLike : GoodIn wsX6_becomeLike wsX2_becomeLike := goodIn_q _ [60] [61, 62, 63, 10, 11, 12, 64, 65, 66, 67, 68, 69, 70, 71, 72, 114, 115, 116, 117, 118, 119, 120, 121, 122, 123, 124] rfl (by decide +kernel) (by decide +kernel)
set_option maxRecDepth 20000 in
theorem gX6_becomeLike_X2_becomeLike : GoodIn wsX6_becomeLike (wsV RX6 77 RX2 yX2_becomeLike wsX2_becomeLike) := goodIn_app (goodIn_of _ (by decide +kernel)) ggX6_becomeLike_X2_becomeLike
set_option maxRecDepth 20000 in
theorem ggX6_becomeLike_X7_becomeLike : GoodIn wsX6_becomeLike wsX7_becomeLike := goodIn_q _ [77] [78, 79, 80, 10, 11, 12, 81, 82, 83, 84, 85, 125, 126, 127, 128, 129, 130, 131] rfl (by decide +kernel) (by decide +kernel)
set_option maxRecDepth 20000 in
theorem gX6_becomeLike_X7_becomeLike : GoodIn wsX6_becomeLike (wsV RX6 80 RX7 yX7_becomeLike wsX7_becomeLike) := goodIn_app (goodIn_of _ (by decide +kernel)) ggX6_becomeLike_X7_becomeLike
