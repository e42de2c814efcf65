set_option maxRecDepth 20000 in
theorem ggL_law_X9_draw : GoodIn wsL_law wsX9_draw := goodIn_q _ [144, 147, 150] [30, 31, 145, 146, 148, 149, 151, 718, 719, 720, 721, 722, 723, 724, 725, 726, 727, 728, 729, 730, 731, 732, 733, 734, 735, 736, 737, 738, 739, 740, 741] rfl (by decide +kernel) (by decide +kernel)
set_option maxRecDepth 20000 in
theorem gL_law_X9_draw : GoodIn wsL_law (wsV RL 26 RX9 yX9_draw wsX9_draw) := goodIn_app (goodIn_of _ (by decide +kernel)) ggL_law_X9_draw
set_option maxRecDepth 20000 in
theorem ggL_law_X8_roomLeft : GoodIn wsL_law wsX8_roomLeft := goodIn_ca (goodIn_q _ [204, 208, 212, 215, 221, 227] [39, 205, 206, 207, 16, 180, 209, 210, 211, 54, 186, 213, 214, 216, 217, 218, 219, 220, 38, 55, 222, 63, 223, 224, 225, 226, 62, 228, 99, 100, 742, 743, 744, 745, 746, 747, 748, 749, 750, 751, 752, 753, 766, 767, 768, 774, 775, 776, 777, 778, 779] rfl (by decide +kernel) (by decide +kernel)) (goodIn_sub (fun _ h => List.mem_append_right _ h) (by decide +kernel))
set_option maxRecDepth 20000 in
theorem gL_law_X8_roomLeft : GoodIn wsL_law (wsV RL 33 RX8 yX8_roomLeft wsX8_roomLeft) := goodIn_app (goodIn_of _ (by decide +kernel)) ggL_law_X8_roomLeft
set_option maxRecDepth 20000 in
theorem ggL_law_X8_receive : GoodIn wsL_law wsX8_receive := goodIn_ca (goodIn_ca (goodIn_ca (goodIn_q _ [232, 239, 243, 215, 208, 212, 160, 163, 168, 221, 227, 247, 252] [39, 233, 234, 235, 156, 199, 236, 237, 238, 16, 240, 241, 242, 50, 175, 213, 214, 216, 217, 205, 206, 207, 180, 209, 210, 211, 54, 186, 158, 159, 161, 162, 164, 165, 166, 167, 169, 170, 218, 219, 220, 38, 55, 222, 63, 223, 224, 225, 226, 62, 228, 99, 100, 244, 245, 246, 78, 248, 249, 250, 251, 98, 101, 102, 742, 743, 744, 745, 746, 747, 748, 749, 750, 751, 752, 753, 774, 775, 776, 777, 778, 779, 761, 762, 763, 764, 765, 766, 767, 768] rfl (by decide +kernel) (by decide +kernel)) (goodIn_sub (fun _ h => List.mem_append_right _ h) (by decide +kernel))) (goodIn_sub (fun _ h => List.mem_append_left _ (List.mem_append_left _ (List.mem_append_right _ h))) (by decide +kernel))) (goodIn_sub (fun _ h => List.mem_append_left _ (List.mem_append_right _ h)) (by decide +kernel))
set_option maxRecDepth 20000 in
theorem gL_law_X8_receive : GoodIn wsL_law (wsV RL 38 RX8 yX8_receive wsX8_receive) := goodIn_app (goodIn_of _ (by decide +kernel)) ggL_law_X8_receive
