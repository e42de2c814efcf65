set_option maxRecDepth 20000 in
theorem ggX1_unitsAt_X1_unitsUpTo : GoodIn wsX1_unitsAt wsX1_unitsUpTo := goodIn_q _ [6] [7, 8, 9, 10, 11, 12, 13, 14, 15, 16, 17] rfl (by decide +kernel) (by decide +kernel)
set_option maxRecDepth 20000 in
theorem gX1_unitsAt_X1_unitsUpTo : GoodIn wsX1_unitsAt (wsV RX1 32 RX1 yX1_unitsUpTo wsX1_unitsUpTo) := goodIn_app (goodIn_of _ (by decide +kernel)) ggX1_unitsAt_X1_unitsUpTo
set_option maxRecDepth 20000 in
theorem ggX1_freeAt_X1_freeFrom : GoodIn wsX1_freeAt wsX1_freeFrom := goodIn_q _ [5, 13] [6, 7, 8, 9, 10, 11, 12, 4, 14, 15, 16, 17, 18, 19, 20, 21] rfl (by decide +kernel) (by decide +kernel)
set_option maxRecDepth 20000 in
theorem gX1_freeAt_X1_freeFrom : GoodIn wsX1_freeAt (wsV RX1 36 RX1 yX1_freeFrom wsX1_freeFrom) := goodIn_app (goodIn_of _ (by decide +kernel)) ggX1_freeAt_X1_freeFrom
set_option maxRecDepth 20000 in
theorem ggX1_freeFrom_X1_freeOf : GoodIn wsX1_freeFrom wsX1_freeOf := goodIn_q _ [9] [10, 11, 12, 13, 14, 15, 16, 17] rfl (by decide +kernel) (by decide +kernel)
set_option maxRecDepth 20000 in
theorem gX1_freeFrom_X1_freeOf : GoodIn wsX1_freeFrom (wsV RX1 39 RX1 yX1_freeOf wsX1_freeOf) := goodIn_app (goodIn_of _ (by decide +kernel)) ggX1_freeFrom_X1_freeOf
set_option maxRecDepth 20000 in
theorem ggX2_openUnitsFrom_X2_isFrom : GoodIn wsX2_openUnitsFrom wsX2_isFrom := goodIn_q _ [8] [9, 10, 11, 12, 13, 14, 15, 16, 17, 18, 19, 20, 21] rfl (by decide +kernel) (by decide +kernel)
set_option maxRecDepth 20000 in
theorem gX2_openUnitsFrom_X2_isFrom : GoodIn wsX2_openUnitsFrom (wsV RX2 46 RX2 yX2_isFrom wsX2_isFrom) := goodIn_app (goodIn_of _ (by decide +kernel)) ggX2_openUnitsFrom_X2_isFrom
set_option maxRecDepth 20000 in
theorem ggX2_useWithin_X2_isFrom : GoodIn wsX2_useWithin wsX2_isFrom := goodIn_q _ [9] [10, 11, 12, 13, 14, 15, 16, 17, 18, 19, 20, 21, 22] rfl (by decide +kernel) (by decide +kernel)
set_option maxRecDepth 20000 in
theorem gX2_useWithin_X2_isFrom : GoodIn wsX2_useWithin (wsV RX2 46 RX2 yX2_isFrom wsX2_isFrom) := goodIn_app (goodIn_of _ (by decide +kernel)) ggX2_useWithin_X2_isFrom
