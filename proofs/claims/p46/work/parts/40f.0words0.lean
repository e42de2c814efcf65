set_option maxRecDepth 20000 in
theorem ggL_law_X8_account : GoodIn wsL_law wsX8_account := goodIn_ca (goodIn_q _ [680, 160, 163] [39, 235, 158, 159, 16, 161, 162, 164, 165, 742, 743, 744, 745, 746, 747, 748, 749, 750, 751, 752, 753] rfl (by decide +kernel) (by decide +kernel)) (goodIn_sub (fun _ h => List.mem_append_left _ (List.mem_append_left _ (List.mem_append_right _ h))) (by decide +kernel))
set_option maxRecDepth 20000 in
theorem gL_law_X8_account : GoodIn wsL_law (wsV RL 100 RX8 yX8_account wsX8_account) := goodIn_app (goodIn_of _ (by decide +kernel)) ggL_law_X8_account
set_option maxRecDepth 20000 in
theorem ggL_law_X8_lots : GoodIn wsL_law wsX8_lots := goodIn_q _ [684] [39, 233, 234, 742, 743, 744, 745, 746, 747, 748, 749, 750, 751, 752, 753, 774, 775, 776, 777, 778, 779] rfl (by decide +kernel) (by decide +kernel)
set_option maxRecDepth 20000 in
theorem gL_law_X8_lots : GoodIn wsL_law (wsV RL 103 RX8 yX8_lots wsX8_lots) := goodIn_app (goodIn_of _ (by decide +kernel)) ggL_law_X8_lots
set_option maxRecDepth 20000 in
theorem ggL_law_X8_ofLot : GoodIn wsL_law wsX8_ofLot := goodIn_ca (goodIn_ca (goodIn_q _ [688, 692, 696, 215, 160, 163, 489] [39, 233, 689, 690, 691, 16, 693, 694, 695, 62, 228, 213, 214, 216, 217, 158, 159, 161, 162, 164, 165, 486, 487, 488, 98, 99, 100, 101, 102, 742, 743, 744, 745, 746, 747, 748, 749, 750, 751, 752, 753, 774, 775, 776, 777, 778, 779] rfl (by decide +kernel) (by decide +kernel)) (goodIn_sub (fun _ h => List.mem_append_right _ h) (by decide +kernel))) (goodIn_sub (fun _ h => List.mem_append_left _ (List.mem_append_left _ (List.mem_append_right _ h))) (by decide +kernel))
set_option maxRecDepth 20000 in
theorem gL_law_X8_ofLot : GoodIn wsL_law (wsV RL 106 RX8 yX8_ofLot wsX8_ofLot) := goodIn_app (goodIn_of _ (by decide +kernel)) ggL_law_X8_ofLot
set_option maxRecDepth 20000 in
theorem ggL_law_X8_day : GoodIn wsL_law wsX8_day := goodIn_q _ [198] [39, 199, 742, 743, 744, 745, 746, 747, 748, 749, 750, 751, 752, 753] rfl (by decide +kernel) (by decide +kernel)
set_option maxRecDepth 20000 in
theorem gL_law_X8_day : GoodIn wsL_law (wsV RL 109 RX8 yX8_day wsX8_day) := goodIn_app (goodIn_of _ (by decide +kernel)) ggL_law_X8_day
set_option maxRecDepth 20000 in
theorem ggL_law_X8_orders : GoodIn wsL_law wsX8_orders := goodIn_q _ [701] [39, 257, 258, 742, 743, 744, 745, 746, 747, 748, 749, 750, 751, 752, 753, 780, 781, 782, 783, 784, 785, 786, 787, 788, 789, 790] rfl (by decide +kernel) (by decide +kernel)
set_option maxRecDepth 20000 in
theorem gL_law_X8_orders : GoodIn wsL_law (wsV RL 112 RX8 yX8_orders wsX8_orders) := goodIn_app (goodIn_of _ (by decide +kernel)) ggL_law_X8_orders
set_option maxRecDepth 20000 in
theorem ggL_law_X8_ofOrder : GoodIn wsL_law wsX8_ofOrder := goodIn_ca (goodIn_ca (goodIn_q _ [705, 709, 713, 215, 160, 163, 497] [39, 257, 706, 707, 708, 16, 710, 711, 712, 66, 263, 213, 214, 216, 217, 158, 159, 161, 162, 164, 165, 494, 495, 496, 113, 108, 109, 110, 114, 742, 743, 744, 745, 746, 747, 748, 749, 750, 751, 752, 753, 780, 781, 782, 783, 784, 785, 786, 787, 788, 789, 790] rfl (by decide +kernel) (by decide +kernel)) (goodIn_sub (fun _ h => List.mem_append_right _ h) (by decide +kernel))) (goodIn_sub (fun _ h => List.mem_append_left _ (List.mem_append_left _ (List.mem_append_right _ h))) (by decide +kernel))
set_option maxRecDepth 20000 in
theorem gL_law_X8_ofOrder : GoodIn wsL_law (wsV RL 115 RX8 yX8_ofOrder wsX8_ofOrder) := goodIn_app (goodIn_of _ (by decide +kernel)) ggL_law_X8_ofOrder
