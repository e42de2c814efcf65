set_option maxRecDepth 20000 in
theorem ggX8_addItem_X8_needWithin : GoodIn wsX8_addItem wsX8_needWithin := goodIn_ca (goodIn_r _ [7, 8, 9, 6, 10, 11, 12] (by decide +kernel) (by decide +kernel)) (goodIn_sub (fun _ h => List.mem_cons_of_mem _ (List.mem_append_left _ (List.mem_append_right _ h))) (by decide +kernel))
set_option maxRecDepth 20000 in
theorem gX8_addItem_X8_needWithin : GoodIn wsX8_addItem (va_wsS RX8 26 yX8_needWithin wsX8_needWithin) := goodIn_app (goodIn_of _ (by decide +kernel)) ggX8_addItem_X8_needWithin
set_option maxRecDepth 20000 in
theorem ggX8_addItem_X8_needState : GoodIn wsX8_addItem wsX8_needState := goodIn_ca (goodIn_r _ [15, 16, 17] (by decide +kernel) (by decide +kernel)) (goodIn_sub (fun _ h => List.mem_cons_of_mem _ (List.mem_append_right _ h)) (by decide +kernel))
set_option maxRecDepth 20000 in
theorem gX8_addItem_X8_needState : GoodIn wsX8_addItem (va_wsS RX8 40 yX8_needState wsX8_needState) := goodIn_app (goodIn_of _ (by decide +kernel)) ggX8_addItem_X8_needState
set_option maxRecDepth 20000 in
theorem ggX8_addItem_X0_add : GoodIn wsX8_addItem wsX0_add := goodIn_r _ [22, 23, 24, 25, 26, 27, 40, 41, 42, 43, 44] (by decide +kernel) (by decide +kernel)
set_option maxRecDepth 20000 in
theorem gX8_addItem_X0_add : GoodIn wsX8_addItem (wsV RX8 44 RX0 yX0_add wsX0_add) := goodIn_app (goodIn_of _ (by decide +kernel)) ggX8_addItem_X0_add
set_option maxRecDepth 20000 in
theorem ggX8_addSite_X8_needWithin : GoodIn wsX8_addSite wsX8_needWithin := goodIn_ca (goodIn_r _ [7, 8, 9, 6, 10, 11, 12] (by decide +kernel) (by decide +kernel)) (goodIn_sub (fun _ h => List.mem_cons_of_mem _ (List.mem_append_left _ (List.mem_append_right _ h))) (by decide +kernel))
set_option maxRecDepth 20000 in
theorem gX8_addSite_X8_needWithin : GoodIn wsX8_addSite (va_wsS RX8 26 yX8_needWithin wsX8_needWithin) := goodIn_app (goodIn_of _ (by decide +kernel)) ggX8_addSite_X8_needWithin
set_option maxRecDepth 20000 in
theorem ggX8_addSite_X8_needState : GoodIn wsX8_addSite wsX8_needState := goodIn_ca (goodIn_r _ [15, 16, 17] (by decide +kernel) (by decide +kernel)) (goodIn_sub (fun _ h => List.mem_cons_of_mem _ (List.mem_append_right _ h)) (by decide +kernel))
set_option maxRecDepth 20000 in
theorem gX8_addSite_X8_needState : GoodIn wsX8_addSite (va_wsS RX8 40 yX8_needState wsX8_needState) := goodIn_app (goodIn_of _ (by decide +kernel)) ggX8_addSite_X8_needState
set_option maxRecDepth 20000 in
theorem ggX8_addSite_X5_add : GoodIn wsX8_addSite wsX5_add := goodIn_r _ [22, 23, 24, 37, 38, 39] (by decide +kernel) (by decide +kernel)
set_option maxRecDepth 20000 in
theorem gX8_addSite_X5_add : GoodIn wsX8_addSite (wsV RX8 55 RX5 yX5_add wsX5_add) := goodIn_app (goodIn_of _ (by decide +kernel)) ggX8_addSite_X5_add
set_option maxRecDepth 20000 in
theorem ggX8_pass_X8_needWithin : GoodIn wsX8_pass wsX8_needWithin := goodIn_ca (goodIn_r _ [6, 7, 8, 5, 9, 10, 11] (by decide +kernel) (by decide +kernel)) (goodIn_sub (fun _ h => List.mem_cons_of_mem _ (List.mem_append_right _ h)) (by decide +kernel))
set_option maxRecDepth 20000 in
theorem gX8_pass_X8_needWithin : GoodIn wsX8_pass (va_wsS RX8 26 yX8_needWithin wsX8_needWithin) := goodIn_app (goodIn_of _ (by decide +kernel)) ggX8_pass_X8_needWithin
set_option maxRecDepth 20000 in
theorem ggX8_pass_X6_liveDays : GoodIn wsX8_pass wsX6_liveDays := goodIn_r _ [16, 17, 18, 19, 20, 15, 21, 22, 23, 24, 25, 26, 27, 28, 29, 30, 31, 32, 33, 34, 35, 36, 37, 38, 39, 40, 41, 42, 43, 44, 45, 46, 47, 48, 49, 50, 51, 52, 53, 54, 55, 56, 57, 58, 59, 60, 61, 62, 63, 64, 65, 66, 67, 68, 69, 70, 71, 72, 73, 74, 75, 76, 77, 78, 79, 80, 81, 82, 83, 84, 85, 86, 87, 88, 89, 90, 91, 92, 93, 94, 95, 96, 97, 98, 99, 100, 101, 102, 103, 104, 105, 106, 107, 108, 109, 110, 111, 112, 113, 114, 115, 116, 117, 118, 119, 120, 121, 122, 123, 124, 125, 126, 127, 128, 129, 130, 131, 132, 133, 134, 135, 136, 137, 138, 139, 140, 141, 142, 143, 144, 145, 146, 147, 148, 149, 150, 151, 152, 153, 154, 155, 156, 157, 158, 159, 160, 161, 162, 163, 164, 165, 166, 167, 168, 169, 170, 171, 172, 173, 174, 175, 176, 177, 178, 179, 180, 181, 5, 182, 183, 184, 185, 186, 187, 188, 189, 190, 191, 192, 193, 194, 195, 196, 197, 198, 199, 200, 201, 202, 203, 204, 205, 206, 207, 208, 209, 210, 211, 212, 213, 214, 215, 216, 217, 218, 219, 220, 221, 222, 223, 224, 225, 226, 227, 228, 229, 230, 231, 232, 233, 234, 235, 236, 237, 238, 239, 240, 241, 242, 243, 244, 245, 246, 247, 248, 249, 250, 251, 252, 256, 257, 258, 259, 260, 261, 262, 263, 264, 265, 266, 267, 268, 269, 270, 271, 272, 273, 274, 275, 276, 277, 278, 279, 280, 281, 282, 283, 284, 285, 286, 287, 288, 289, 290, 291, 292, 293, 294, 295, 296, 297, 298, 299, 300, 301] (by decide +kernel) (by decide +kernel)
set_option maxRecDepth 20000 in
theorem gX8_pass_X6_liveDays : GoodIn wsX8_pass (wsV RX8 172 RX6 yX6_liveDays wsX6_liveDays) := goodIn_app (goodIn_of _ (by decide +kernel)) ggX8_pass_X6_liveDays
set_option maxRecDepth 20000 in
theorem ggX8_account_X8_needWithin : GoodIn wsX8_account wsX8_needWithin := goodIn_ca (goodIn_r _ [6, 7, 8, 5, 9, 10, 11] (by decide +kernel) (by decide +kernel)) (goodIn_sub (fun _ h => List.mem_cons_of_mem _ (List.mem_append_right _ h)) (by decide +kernel))
set_option maxRecDepth 20000 in
theorem gX8_account_X8_needWithin : GoodIn wsX8_account (va_wsS RX8 26 yX8_needWithin wsX8_needWithin) := goodIn_app (goodIn_of _ (by decide +kernel)) ggX8_account_X8_needWithin
