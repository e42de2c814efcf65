set_option maxRecDepth 20000 in
theorem ggX3_findWays_X3_step : GoodIn wsX3_findWays wsX3_step := goodIn_q _ [10, 15] [2, 4, 11, 12, 5, 13, 14, 16, 17, 18, 19, 20, 21, 22] rfl (by decide +kernel) (by decide +kernel)
set_option maxRecDepth 20000 in
theorem gX3_findWays_X3_step : GoodIn wsX3_findWays (wsV RX3 76 RX3 yX3_step wsX3_step) := goodIn_app (goodIn_of _ (by decide +kernel)) ggX3_findWays_X3_step
set_option maxRecDepth 20000 in
theorem ggX3_step_X8_pair : GoodIn wsX3_step wsX8_pair := goodIn_q _ [8] [] rfl (by decide +kernel) (by decide +kernel)
set_option maxRecDepth 20000 in
theorem gX3_step_X8_pair_n52 : GoodIn wsX3_step (wsX8_pair) := ggX3_step_X8_pair
