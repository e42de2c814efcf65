set_option maxRecDepth 20000 in
theorem ggX9_copy_X9_init : GoodIn wsX9_copy wsX9_init := goodIn_q _ [42, 45, 49] [43, 44, 46, 10, 11, 12, 13, 14, 15, 16, 17, 18, 19, 20, 21, 22, 23, 24, 25, 26, 27, 28, 29, 30, 31, 32, 33, 34, 35, 36, 37, 38, 39, 47, 48, 3, 57, 58, 59, 60, 61, 62, 63, 64, 65, 66, 67, 68, 69, 70, 71, 72, 73, 74, 75, 76, 77, 78, 79, 80, 81, 82, 83, 84, 85, 86, 87, 88, 89, 90, 91, 92] rfl (by decide +kernel) (by decide +kernel)
set_option maxRecDepth 20000 in
theorem gX9_copy_X9_init : GoodIn wsX9_copy (wsX9_init) := ggX9_copy_X9_init
set_option maxRecDepth 20000 in
theorem ggX9_copy_X10_copyOf : GoodIn wsX9_copy wsX10_copyOf := goodIn_q _ [52] [46, 53, 54, 55, 56] rfl (by decide +kernel) (by decide +kernel)
set_option maxRecDepth 20000 in
theorem gX9_copy_X10_copyOf_n126 : GoodIn wsX9_copy (wsX10_copyOf) := ggX9_copy_X10_copyOf
