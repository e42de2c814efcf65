set_option maxRecDepth 20000 in
theorem ggX8_balance_X8_needItem : GoodIn wsX8_balance wsX8_needItem := goodIn_ca (goodIn_q _ [10, 16, 20] [2, 11, 12, 13, 14, 15, 17, 18, 19, 9, 21, 22, 182, 183, 184, 185, 186, 187, 188, 189, 190, 191, 192, 193, 204, 205, 206, 207, 208] rfl (by decide +kernel) (by decide +kernel)) (goodIn_sub (fun _ h => List.mem_cons_of_mem _ (List.mem_append_right _ h)) (by decide +kernel))
set_option maxRecDepth 20000 in
theorem gX8_balance_X8_needItem : GoodIn wsX8_balance (wsV RX8 86 RX8 yX8_needItem wsX8_needItem) := goodIn_app (goodIn_of _ (by decide +kernel)) ggX8_balance_X8_needItem
set_option maxRecDepth 20000 in
theorem ggX8_balance_X3_make : GoodIn wsX8_balance wsX3_make := goodIn_q _ [27, 41, 48, 51, 56, 59, 63, 70, 75, 85, 95, 102, 108, 112, 116, 121, 125, 129, 136, 140, 144] [28, 29, 30, 31, 32, 33, 34, 35, 36, 37, 38, 39, 40, 42, 43, 44, 45, 46, 47, 49, 50, 52, 53, 54, 55, 57, 58, 9, 60, 61, 62, 64, 65, 66, 67, 68, 69, 71, 72, 73, 74, 76, 77, 78, 79, 80, 81, 82, 83, 84, 86, 87, 88, 89, 90, 91, 92, 93, 94, 96, 97, 98, 99, 100, 101, 103, 104, 105, 106, 107, 109, 110, 111, 113, 114, 115, 117, 118, 119, 120, 122, 123, 124, 26, 126, 127, 128, 130, 131, 132, 133, 134, 135, 137, 138, 139, 141, 142, 143, 145, 185, 186, 187, 188, 189, 190, 191, 192, 193, 194, 195, 196, 197, 198, 199, 200, 201, 202, 203, 209, 210, 211, 212, 213, 214, 215, 216, 217, 218, 219, 220, 221, 222, 223, 224, 225, 226, 227, 228, 229, 230, 231, 232, 233, 234, 235, 236, 237] rfl (by decide +kernel) (by decide +kernel)
set_option maxRecDepth 20000 in
theorem gX8_balance_X3_make : GoodIn wsX8_balance (wsV RX8 178 RX3 yX3_make wsX3_make) := goodIn_app (goodIn_of _ (by decide +kernel)) ggX8_balance_X3_make
set_option maxRecDepth 20000 in
theorem ggX8_balance_X8_pair : GoodIn wsX8_balance wsX8_pair := goodIn_q _ [59] [] rfl (by decide +kernel) (by decide +kernel)
set_option maxRecDepth 20000 in
theorem gX8_balance_X8_pair : GoodIn wsX8_balance (va_wsS RX8 73 yX8_pair wsX8_pair) := goodIn_app (goodIn_of _ (by decide +kernel)) ggX8_balance_X8_pair
set_option maxRecDepth 20000 in
theorem ggX8_balance_X6_sendUnits : GoodIn wsX8_balance wsX6_sendUnits := goodIn_q _ [150, 48, 159, 164, 59, 169, 173, 116, 178] [151, 152, 64, 44, 45, 46, 47, 153, 154, 155, 156, 157, 158, 160, 161, 162, 163, 165, 58, 9, 166, 167, 168, 84, 86, 170, 171, 172, 69, 76, 77, 78, 79, 113, 114, 115, 80, 117, 174, 175, 176, 177, 88, 89, 90, 179, 180, 87, 181, 185, 186, 187, 188, 189, 190, 191, 192, 193, 214, 215, 216, 217, 218, 219, 194, 195, 196, 220, 221, 222, 223, 224, 225, 226] rfl (by decide +kernel) (by decide +kernel)
set_option maxRecDepth 20000 in
theorem gX8_balance_X6_sendUnits : GoodIn wsX8_balance (wsV RX8 175 RX6 yX6_sendUnits wsX6_sendUnits) := goodIn_app (goodIn_of _ (by decide +kernel)) ggX8_balance_X6_sendUnits
