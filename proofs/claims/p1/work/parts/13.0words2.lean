set_option maxRecDepth 20000 in
theorem ggX10_onHandIn_X10_isBoth : GoodIn wsX10_onHandIn wsX10_isBoth := goodIn_r _ [7, 8, 9, 10, 6, 11, 2, 12, 13, 14, 15, 16, 17, 18, 19, 20, 161, 162, 163, 164, 165, 166, 167, 168, 169, 170, 171, 172, 173, 174, 175, 176, 177, 178, 179, 180, 181, 182, 183, 184, 185, 186, 187, 188, 189, 190, 191, 192, 193, 194, 195, 196, 197, 198] (by decide +kernel) (by decide +kernel)
set_option maxRecDepth 20000 in
theorem gX10_onHandIn_X10_isBoth : GoodIn wsX10_onHandIn (wsV RX10 69 RX10 yX10_isBoth wsX10_isBoth) := goodIn_app (goodIn_of _ (by decide +kernel)) ggX10_onHandIn_X10_isBoth
set_option maxRecDepth 20000 in
theorem ggX10_onHandIn_X10_no : GoodIn wsX10_onHandIn wsX10_no := goodIn_r _ [24, 1, 161, 162] (by decide +kernel) (by decide +kernel)
set_option maxRecDepth 20000 in
theorem gX10_onHandIn_X10_no : GoodIn wsX10_onHandIn (wsV RX10 43 RX10 yX10_no wsX10_no) := goodIn_app (goodIn_of _ (by decide +kernel)) ggX10_onHandIn_X10_no
set_option maxRecDepth 20000 in
theorem ggX10_shippedOn_X10_isOrder : GoodIn wsX10_shippedOn wsX10_isOrder := goodIn_r _ [9, 2, 10, 11, 12, 8, 13, 153, 154, 155, 156, 157, 158, 159, 160, 161, 162, 163, 164, 165, 166, 167, 168, 169, 170, 171, 172, 173, 174, 175, 176, 177, 178, 179, 180, 181, 182, 183, 184, 185, 186, 187, 188, 189, 190] (by decide +kernel) (by decide +kernel)
set_option maxRecDepth 20000 in
theorem gX10_shippedOn_X10_isOrder : GoodIn wsX10_shippedOn (wsV RX10 129 RX10 yX10_isOrder wsX10_isOrder) := goodIn_app (goodIn_of _ (by decide +kernel)) ggX10_shippedOn_X10_isOrder
set_option maxRecDepth 20000 in
theorem ggX10_shippedOn_X10_no : GoodIn wsX10_shippedOn wsX10_no := goodIn_r _ [17, 1, 153, 154] (by decide +kernel) (by decide +kernel)
set_option maxRecDepth 20000 in
theorem gX10_shippedOn_X10_no : GoodIn wsX10_shippedOn (wsV RX10 43 RX10 yX10_no wsX10_no) := goodIn_app (goodIn_of _ (by decide +kernel)) ggX10_shippedOn_X10_no
