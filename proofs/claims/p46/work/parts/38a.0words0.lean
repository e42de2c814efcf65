set_option maxRecDepth 20000 in
theorem ggX9_make_X9_draw : GoodIn wsX9_make wsX9_draw := goodIn_q _ [12, 17, 20] [13, 14, 15, 16, 18, 19, 21, 79, 80, 81, 82, 83, 84, 85, 86, 87, 88, 89, 90, 91, 92, 93, 94, 95, 96, 97, 98, 99, 100, 101, 102] rfl (by decide +kernel) (by decide +kernel)
set_option maxRecDepth 20000 in
theorem gX9_make_X9_draw : GoodIn wsX9_make (wsV RX9 67 RX9 yX9_draw wsX9_draw) := goodIn_app (goodIn_of _ (by decide +kernel)) ggX9_make_X9_draw
set_option maxRecDepth 20000 in
theorem ggX9_make_X8_addItem : GoodIn wsX9_make wsX8_addItem := goodIn_ca (goodIn_ca (goodIn_q _ [26, 32, 35, 40, 47] [27, 28, 29, 30, 31, 25, 33, 34, 36, 37, 38, 39, 41, 42, 43, 44, 45, 46, 48, 49, 50, 51, 52, 103, 104, 105, 106, 107, 108, 109, 110, 111, 112, 113, 114, 115, 116, 117, 118, 119] rfl (by decide +kernel) (by decide +kernel)) (goodIn_sub (fun _ h => List.mem_cons_of_mem _ (List.mem_append_left _ (List.mem_append_right _ h))) (by decide +kernel))) (goodIn_sub (fun _ h => List.mem_cons_of_mem _ (List.mem_append_right _ h)) (by decide +kernel))
set_option maxRecDepth 20000 in
theorem gX9_make_X8_addItem : GoodIn wsX9_make (wsV RX9 77 RX8 yX8_addItem wsX8_addItem) := goodIn_app (goodIn_of _ (by decide +kernel)) ggX9_make_X8_addItem
set_option maxRecDepth 20000 in
theorem ggX9_make_X8_addSite : GoodIn wsX9_make wsX8_addSite := goodIn_ca (goodIn_ca (goodIn_q _ [56, 32, 35, 40, 63] [27, 57, 58, 30, 31, 25, 33, 34, 36, 37, 38, 39, 41, 42, 59, 60, 61, 62, 64, 65, 103, 104, 105, 106, 107, 108, 109, 110, 111, 112, 113, 114, 120, 121, 122] rfl (by decide +kernel) (by decide +kernel)) (goodIn_sub (fun _ h => List.mem_cons_of_mem _ (List.mem_append_left _ (List.mem_append_right _ h))) (by decide +kernel))) (goodIn_sub (fun _ h => List.mem_cons_of_mem _ (List.mem_append_right _ h)) (by decide +kernel))
set_option maxRecDepth 20000 in
theorem gX9_make_X8_addSite : GoodIn wsX9_make (wsV RX9 81 RX8 yX8_addSite wsX8_addSite) := goodIn_app (goodIn_of _ (by decide +kernel)) ggX9_make_X8_addSite
set_option maxRecDepth 20000 in
theorem ggX9_make_X8_items : GoodIn wsX9_make wsX8_items := goodIn_q _ [69] [27, 28, 29, 103, 104, 105, 106, 107, 108, 109, 110, 111, 112, 113, 114, 115, 116, 117, 118, 119] rfl (by decide +kernel) (by decide +kernel)
set_option maxRecDepth 20000 in
theorem gX9_make_X8_items : GoodIn wsX9_make (wsV RX9 84 RX8 yX8_items wsX8_items) := goodIn_app (goodIn_of _ (by decide +kernel)) ggX9_make_X8_items
set_option maxRecDepth 20000 in
theorem ggX9_make_X8_sites : GoodIn wsX9_make wsX8_sites := goodIn_q _ [73] [27, 57, 58, 103, 104, 105, 106, 107, 108, 109, 110, 111, 112, 113, 114, 120, 121, 122] rfl (by decide +kernel) (by decide +kernel)
set_option maxRecDepth 20000 in
theorem gX9_make_X8_sites : GoodIn wsX9_make (wsV RX9 87 RX8 yX8_sites wsX8_sites) := goodIn_app (goodIn_of _ (by decide +kernel)) ggX9_make_X8_sites
set_option maxRecDepth 20000 in
theorem ggX9_make_X8_day : GoodIn wsX9_make wsX8_day := goodIn_q _ [77] [27, 78, 103, 104, 105, 106, 107, 108, 109, 110, 111, 112, 113, 114] rfl (by decide +kernel) (by decide +kernel)
set_option maxRecDepth 20000 in
theorem gX9_make_X8_day : GoodIn wsX9_make (wsV RX9 89 RX8 yX8_day wsX8_day) := goodIn_app (goodIn_of _ (by decide +kernel)) ggX9_make_X8_day
