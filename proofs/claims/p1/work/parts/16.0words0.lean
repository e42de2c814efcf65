set_option maxRecDepth 20000 in
theorem ggX9_pass_X9_reserveAll : GoodIn wsX9_pass wsX9_reserveAll := goodIn_q _ [40, 45, 50, 53, 19, 60, 64, 68] [8, 41, 21, 42, 43, 44, 29, 46, 22, 47, 48, 49, 23, 1, 51, 52, 18, 54, 2, 55, 56, 4, 3, 16, 17, 9, 57, 58, 59, 61, 62, 63, 7, 32, 65, 66, 67, 110, 111, 112, 113, 114, 115, 116, 117, 118, 119, 120, 121, 122, 123, 124, 125, 126, 127, 128, 129, 130, 131, 132, 133, 134, 135, 136, 137, 138, 139, 140, 141, 142, 143, 144, 145] rfl (by decide +kernel) (by decide +kernel)
set_option maxRecDepth 20000 in
theorem gX9_pass_X9_reserveAll : GoodIn wsX9_pass (wsV RX9 189 RX9 yX9_reserveAll wsX9_reserveAll) := goodIn_app (goodIn_of _ (by decide +kernel)) ggX9_pass_X9_reserveAll
set_option maxRecDepth 20000 in
theorem ggX10_addItem_X10_isIn : GoodIn wsX10_addItem wsX10_isIn := goodIn_q _ [10] [] rfl (by decide +kernel) (by decide +kernel)
set_option maxRecDepth 20000 in
theorem gX10_addItem_X10_isIn : GoodIn wsX10_addItem (va_wsS RX10 29 yX10_isIn wsX10_isIn) := goodIn_app (goodIn_of _ (by decide +kernel)) ggX10_addItem_X10_isIn
set_option maxRecDepth 20000 in
theorem ggX10_addItem_X10_no : GoodIn wsX10_addItem wsX10_no := goodIn_q _ [14] [1, 15, 16] rfl (by decide +kernel) (by decide +kernel)
set_option maxRecDepth 20000 in
theorem gX10_addItem_X10_no : GoodIn wsX10_addItem (wsV RX10 43 RX10 yX10_no wsX10_no) := goodIn_app (goodIn_of _ (by decide +kernel)) ggX10_addItem_X10_no
set_option maxRecDepth 20000 in
theorem ggX10_addSite_X10_isIn : GoodIn wsX10_addSite wsX10_isIn := goodIn_q _ [8] [] rfl (by decide +kernel) (by decide +kernel)
set_option maxRecDepth 20000 in
theorem gX10_addSite_X10_isIn : GoodIn wsX10_addSite (va_wsS RX10 29 yX10_isIn wsX10_isIn) := goodIn_app (goodIn_of _ (by decide +kernel)) ggX10_addSite_X10_isIn
set_option maxRecDepth 20000 in
theorem ggX10_addSite_X10_no : GoodIn wsX10_addSite wsX10_no := goodIn_q _ [12] [1, 13, 14] rfl (by decide +kernel) (by decide +kernel)
set_option maxRecDepth 20000 in
theorem gX10_addSite_X10_no : GoodIn wsX10_addSite (wsV RX10 43 RX10 yX10_no wsX10_no) := goodIn_app (goodIn_of _ (by decide +kernel)) ggX10_addSite_X10_no
set_option maxRecDepth 20000 in
theorem ggX10_reserveAnew_X9_reserveAll : GoodIn wsX10_reserveAnew wsX9_reserveAll := goodIn_q _ [19, 26, 32, 38, 46, 15, 50, 56] [20, 21, 22, 23, 24, 25, 8, 27, 28, 29, 30, 31, 33, 34, 35, 36, 37, 39, 10, 40, 41, 42, 43, 44, 45, 11, 12, 13, 14, 47, 48, 49, 51, 52, 53, 54, 55, 60, 61, 62, 63, 64, 65, 66, 67, 68, 69, 70, 71, 72, 73, 74, 75, 76, 77, 78, 79, 80, 81, 82, 83, 84, 85, 86, 87, 88, 89, 90, 91, 92, 93, 94, 95] rfl (by decide +kernel) (by decide +kernel)
set_option maxRecDepth 20000 in
theorem gX10_reserveAnew_X9_reserveAll : GoodIn wsX10_reserveAnew (wsV RX10 135 RX9 yX9_reserveAll wsX9_reserveAll) := goodIn_app (goodIn_of _ (by decide +kernel)) ggX10_reserveAnew_X9_reserveAll
set_option maxRecDepth 20000 in
theorem ggX10_pass_X10_isIn : GoodIn wsX10_pass wsX10_isIn := goodIn_q _ [7] [] rfl (by decide +kernel) (by decide +kernel)
set_option maxRecDepth 20000 in
theorem gX10_pass_X10_isIn : GoodIn wsX10_pass (va_wsS RX10 29 yX10_isIn wsX10_isIn) := goodIn_app (goodIn_of _ (by decide +kernel)) ggX10_pass_X10_isIn
set_option maxRecDepth 20000 in
theorem ggX10_pass_X10_no : GoodIn wsX10_pass wsX10_no := goodIn_q _ [11] [1, 125, 126] rfl (by decide +kernel) (by decide +kernel)
set_option maxRecDepth 20000 in
theorem gX10_pass_X10_no : GoodIn wsX10_pass (wsV RX10 43 RX10 yX10_no wsX10_no) := goodIn_app (goodIn_of _ (by decide +kernel)) ggX10_pass_X10_no
set_option maxRecDepth 20000 in
theorem ggX10_pass_X9_pass : GoodIn wsX10_pass wsX9_pass := goodIn_q _ [16, 35, 45, 51, 55, 60, 65, 68, 75, 79, 83, 87, 93, 97, 107, 111, 115, 119, 124] [17, 18, 19, 20, 21, 22, 23, 24, 25, 26, 27, 28, 29, 30, 31, 32, 33, 34, 36, 37, 38, 39, 40, 41, 42, 43, 44, 15, 46, 47, 48, 49, 50, 52, 53, 54, 56, 57, 58, 59, 61, 62, 63, 64, 66, 67, 69, 70, 71, 72, 73, 74, 76, 77, 78, 80, 81, 82, 84, 85, 86, 88, 89, 90, 91, 92, 94, 95, 96, 98, 99, 100, 101, 102, 103, 104, 105, 106, 108, 109, 110, 112, 113, 114, 116, 117, 118, 120, 121, 122, 123, 127, 128, 129, 130, 131, 132, 133, 134, 135, 136, 137, 138, 139, 140, 141, 142, 143, 144, 145, 146, 147, 148, 149, 150, 151, 152, 153, 154, 155, 156, 157, 158, 159, 160, 161, 162] rfl (by decide +kernel) (by decide +kernel)
set_option maxRecDepth 20000 in
theorem gX10_pass_X9_pass : GoodIn wsX10_pass (wsV RX10 144 RX9 yX9_pass wsX9_pass) := goodIn_app (goodIn_of _ (by decide +kernel)) ggX10_pass_X9_pass
set_option maxRecDepth 20000 in
theorem ggX10_account_X10_isIn : GoodIn wsX10_account wsX10_isIn := goodIn_q _ [7] [] rfl (by decide +kernel) (by decide +kernel)
set_option maxRecDepth 20000 in
theorem gX10_account_X10_isIn : GoodIn wsX10_account (va_wsS RX10 29 yX10_isIn wsX10_isIn) := goodIn_app (goodIn_of _ (by decide +kernel)) ggX10_account_X10_isIn
set_option maxRecDepth 20000 in
theorem ggX10_account_X10_no : GoodIn wsX10_account wsX10_no := goodIn_q _ [11] [1, 12, 13] rfl (by decide +kernel) (by decide +kernel)
set_option maxRecDepth 20000 in
theorem gX10_account_X10_no : GoodIn wsX10_account (wsV RX10 43 RX10 yX10_no wsX10_no) := goodIn_app (goodIn_of _ (by decide +kernel)) ggX10_account_X10_no
