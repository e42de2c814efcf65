set_option maxRecDepth 20000 in
theorem ggX10_isItem_X10_isIn : GoodIn wsX10_isItem wsX10_isIn := goodIn_r _ [6] (by decide +kernel) (by decide +kernel)
set_option maxRecDepth 20000 in
theorem gX10_isItem_X10_isIn : GoodIn wsX10_isItem (va_wsS RX10 29 yX10_isIn wsX10_isIn) := goodIn_app (goodIn_of _ (by decide +kernel)) ggX10_isItem_X10_isIn
set_option maxRecDepth 20000 in
theorem ggX10_isSite_X10_isIn : GoodIn wsX10_isSite wsX10_isIn := goodIn_r _ [6] (by decide +kernel) (by decide +kernel)
set_option maxRecDepth 20000 in
theorem gX10_isSite_X10_isIn : GoodIn wsX10_isSite (va_wsS RX10 29 yX10_isIn wsX10_isIn) := goodIn_app (goodIn_of _ (by decide +kernel)) ggX10_isSite_X10_isIn
set_option maxRecDepth 20000 in
theorem ggX10_isBoth_X10_isItem : GoodIn wsX10_isBoth wsX10_isItem := goodIn_r _ [5, 6, 7, 8, 9, 4, 10, 16, 17, 18, 19, 20, 21, 22, 23, 24, 25, 26, 27, 28, 29, 30, 31, 32, 33, 34, 35, 36, 37, 38, 39, 40, 41, 42, 43, 44, 45, 46, 47, 48, 49, 50, 51, 52, 53] (by decide +kernel) (by decide +kernel)
set_option maxRecDepth 20000 in
theorem gX10_isBoth_X10_isItem : GoodIn wsX10_isBoth (wsV RX10 36 RX10 yX10_isItem wsX10_isItem) := goodIn_app (goodIn_of _ (by decide +kernel)) ggX10_isBoth_X10_isItem
set_option maxRecDepth 20000 in
theorem ggX10_isOrder_X10_isIn : GoodIn wsX10_isOrder wsX10_isIn := goodIn_r _ [6] (by decide +kernel) (by decide +kernel)
set_option maxRecDepth 20000 in
theorem gX10_isOrder_X10_isIn : GoodIn wsX10_isOrder (va_wsS RX10 29 yX10_isIn wsX10_isIn) := goodIn_app (goodIn_of _ (by decide +kernel)) ggX10_isOrder_X10_isIn
