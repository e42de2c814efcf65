set_option maxRecDepth 20000 in
theorem ggX3_sendAlong_X8_pair : GoodIn wsX3_sendAlong wsX8_pair := goodIn_q _ [12] [] rfl (by decide +kernel) (by decide +kernel)
set_option maxRecDepth 20000 in
theorem gX3_sendAlong_X8_pair_n52 : GoodIn wsX3_sendAlong (wsX8_pair) := ggX3_sendAlong_X8_pair
