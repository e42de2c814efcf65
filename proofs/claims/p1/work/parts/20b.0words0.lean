set_option maxRecDepth 20000 in
theorem ggX10_firstShort_X10_isIn : GoodIn wsX10_firstShort wsX10_isIn := goodIn_q _ [7] [] rfl (by decide +kernel) (by decide +kernel)
set_option maxRecDepth 20000 in
theorem gX10_firstShort_X10_isIn : GoodIn wsX10_firstShort (va_wsS RX10 29 yX10_isIn wsX10_isIn) := goodIn_app (goodIn_of _ (by decide +kernel)) ggX10_firstShort_X10_isIn
set_option maxRecDepth 20000 in
theorem ggX10_firstShort_X10_no : GoodIn wsX10_firstShort wsX10_no := goodIn_q _ [11] [1, 147, 148] rfl (by decide +kernel) (by decide +kernel)
set_option maxRecDepth 20000 in
theorem gX10_firstShort_X10_no : GoodIn wsX10_firstShort (wsV RX10 43 RX10 yX10_no wsX10_no) := goodIn_app (goodIn_of _ (by decide +kernel)) ggX10_firstShort_X10_no
set_option maxRecDepth 20000 in
theorem ggX10_firstShort_X9_copy : GoodIn wsX10_firstShort wsX9_copy := goodIn_q _ [16, 57, 60, 64, 66] [17, 18, 15, 19, 20, 21, 22, 23, 24, 25, 26, 27, 28, 29, 30, 31, 32, 33, 34, 35, 36, 37, 38, 39, 40, 41, 42, 43, 44, 45, 46, 47, 48, 49, 50, 51, 52, 53, 54, 55, 56, 58, 59, 61, 62, 63, 65, 6, 67, 68, 69, 70, 149, 150, 151, 152, 153, 154, 155, 156, 157, 158, 159, 160, 161, 162, 163, 164, 165, 166, 167, 168, 169, 170, 171, 172, 173, 174, 175, 176, 177, 178, 179, 180, 181, 182, 183, 184] rfl (by decide +kernel) (by decide +kernel)
set_option maxRecDepth 20000 in
theorem gX10_firstShort_X9_copy : GoodIn wsX10_firstShort (wsV RX10 246 RX9 yX9_copy wsX9_copy) := goodIn_app (goodIn_of _ (by decide +kernel)) ggX10_firstShort_X9_copy
set_option maxRecDepth 20000 in
theorem ggX10_firstShort_X9_pass : GoodIn wsX10_firstShort wsX9_pass := goodIn_q _ [74, 78, 82, 86, 90, 95, 99, 102, 106, 110, 114, 118, 122, 126, 130, 134, 138, 142, 146] [19, 22, 37, 38, 54, 26, 35, 23, 47, 24, 53, 51, 52, 50, 49, 75, 76, 77, 48, 45, 42, 41, 20, 21, 79, 80, 81, 15, 29, 36, 83, 84, 85, 87, 88, 89, 91, 92, 93, 94, 43, 96, 97, 98, 100, 101, 44, 39, 40, 103, 104, 105, 107, 108, 109, 111, 112, 113, 115, 116, 117, 46, 28, 119, 120, 121, 123, 124, 125, 32, 31, 27, 33, 34, 25, 127, 128, 129, 131, 132, 133, 135, 136, 137, 139, 140, 141, 30, 143, 144, 145, 149, 150, 151, 152, 153, 154, 155, 156, 157, 158, 159, 160, 161, 162, 163, 164, 165, 166, 167, 168, 169, 170, 171, 172, 173, 174, 175, 176, 177, 178, 179, 180, 181, 182, 183, 184] rfl (by decide +kernel) (by decide +kernel)
set_option maxRecDepth 20000 in
theorem gX10_firstShort_X9_pass : GoodIn wsX10_firstShort (wsV RX10 144 RX9 yX9_pass wsX9_pass) := goodIn_app (goodIn_of _ (by decide +kernel)) ggX10_firstShort_X9_pass
