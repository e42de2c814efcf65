set_option maxRecDepth 20000 in
theorem ggX8_mixPlans_X0_classFor : GoodIn wsX8_mixPlans wsX0_classFor := goodIn_q _ [12] [13, 14, 156, 157, 158, 159, 160] rfl (by decide +kernel) (by decide +kernel)
set_option maxRecDepth 20000 in
theorem gX8_mixPlans_X0_classFor : GoodIn wsX8_mixPlans (wsV RX8 237 RX0 yX0_classFor wsX0_classFor) := goodIn_app (goodIn_of _ (by decide +kernel)) ggX8_mixPlans_X0_classFor
set_option maxRecDepth 20000 in
theorem ggX8_mixPlans_X8_mix : GoodIn wsX8_mixPlans wsX8_mix := goodIn_q _ [18] [19] rfl (by decide +kernel) (by decide +kernel)
set_option maxRecDepth 20000 in
theorem gX8_mixPlans_X8_mix : GoodIn wsX8_mixPlans (va_wsS RX8 281 yX8_mix wsX8_mix) := goodIn_app (goodIn_of _ (by decide +kernel)) ggX8_mixPlans_X8_mix
set_option maxRecDepth 20000 in
theorem ggX8_mixPlans_X3_make : GoodIn wsX8_mixPlans wsX3_make := goodIn_q _ [24, 38, 45, 48, 53, 56, 60, 67, 72, 82, 92, 99, 105, 109, 113, 118, 122, 126, 133, 137, 141] [25, 26, 27, 28, 29, 30, 31, 32, 33, 34, 35, 36, 37, 39, 40, 41, 42, 43, 44, 46, 47, 49, 50, 51, 52, 54, 55, 17, 57, 58, 59, 61, 62, 63, 64, 65, 66, 68, 69, 70, 71, 73, 74, 75, 76, 77, 78, 79, 80, 81, 83, 84, 85, 86, 87, 88, 89, 90, 91, 93, 94, 95, 96, 97, 98, 100, 101, 102, 103, 104, 106, 107, 108, 110, 111, 112, 114, 115, 116, 117, 119, 120, 121, 23, 123, 124, 125, 127, 128, 129, 130, 131, 132, 134, 135, 136, 138, 139, 140, 142, 147, 148, 149, 150, 151, 152, 153, 154, 155, 161, 162, 163, 164, 165, 166, 167, 168, 169, 170, 171, 172, 173, 174, 175, 176, 177, 178, 179, 180, 181, 182, 183, 184, 185, 186, 187, 188, 189, 190, 191, 192, 193, 194, 195, 196, 197, 198, 199] rfl (by decide +kernel) (by decide +kernel)
set_option maxRecDepth 20000 in
theorem gX8_mixPlans_X3_make : GoodIn wsX8_mixPlans (wsV RX8 178 RX3 yX3_make wsX3_make) := goodIn_app (goodIn_of _ (by decide +kernel)) ggX8_mixPlans_X3_make
set_option maxRecDepth 20000 in
theorem ggX8_mixPlans_X8_pair : GoodIn wsX8_mixPlans wsX8_pair := goodIn_q _ [56] [] rfl (by decide +kernel) (by decide +kernel)
set_option maxRecDepth 20000 in
theorem gX8_mixPlans_X8_pair : GoodIn wsX8_mixPlans (va_wsS RX8 73 yX8_pair wsX8_pair) := goodIn_app (goodIn_of _ (by decide +kernel)) ggX8_mixPlans_X8_pair
