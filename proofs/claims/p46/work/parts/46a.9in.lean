set_option maxRecDepth 20000 in
theorem in_wsL_law0_r1 : ∀ w ∈ wsL_law0_r1, w ∈ lw_tbl := fun w h => (goodIn_q wsL_law0_r1 [630, 89] [626, 627, 28, 921, 925, 934, 668, 927, 628, 629, 631, 88, 632, 53, 29, 920, 926, 928, 929, 930, 917, 931] rfl (by decide +kernel) (by decide +kernel) w h).1
set_option maxRecDepth 20000 in
theorem in_wsL_law0_r2 : ∀ w ∈ wsL_law0_r2, w ∈ lw_tbl := fun w h => (goodIn_q wsL_law0_r2 [635, 640] [932, 935, 936, 937, 919, 938, 922, 923, 633, 634, 636, 637, 259, 30, 907, 908, 878, 425, 37, 909, 639, 641] rfl (by decide +kernel) (by decide +kernel) w h).1
set_option maxRecDepth 20000 in
theorem in_wsL_law0_r3 : ∀ w ∈ wsL_law0_r3, w ∈ lw_tbl := fun w h => (goodIn_q wsL_law0_r3 [] [642, 643, 31, 843, 669, 670, 32, 845, 691, 692, 33, 848, 723, 724, 34, 850, 754, 755, 35, 852, 805, 806, 36, 854] rfl (by decide +kernel) (by decide +kernel) w h).1
set_option maxRecDepth 20000 in
theorem in_wsL_law0_r4 : ∀ w ∈ wsL_law0_r4, w ∈ lw_tbl := fun w h => (goodIn_q wsL_law0_r4 [646, 673, 695] [856, 858, 645, 647, 651, 653, 654, 655, 672, 674, 679, 681, 694, 696, 722, 697, 699, 702, 705, 708, 726] rfl (by decide +kernel) (by decide +kernel) w h).1
set_option maxRecDepth 20000 in
theorem in_wsL_law0_r5 : ∀ w ∈ wsL_law0_r5, w ∈ lw_tbl := fun w h => (goodIn_q wsL_law0_r5 [727, 758, 809] [728, 732, 734, 735, 737, 739, 757, 759, 763, 765, 767, 769, 771, 773, 774, 776, 778, 780, 808, 810, 814] rfl (by decide +kernel) (by decide +kernel) w h).1
set_option maxRecDepth 20000 in
theorem in_wsL_law0_r6 : ∀ w ∈ wsL_law0_r6, w ∈ lw_tbl := fun w h => (goodIn_q wsL_law0_r6 [881, 1003] [816, 818, 820, 822, 824, 880, 882, 884, 885, 906, 886, 887, 888, 889, 1000, 1001, 1002, 924, 933, 1004, 989, 990] rfl (by decide +kernel) (by decide +kernel) w h).1
set_option maxRecDepth 20000 in
theorem in_wsL_law0_r7 : ∀ w ∈ wsL_law0_r7, w ∈ lw_tbl := fun w h => (goodIn_q wsL_law0_r7 [991, 994, 998, 1008, 153, 134] [993, 27, 995, 997, 999, 1005, 1006, 1007, 844, 649, 151, 152, 132, 133, 135, 41, 188, 189] rfl (by decide +kernel) (by decide +kernel) w h).1
set_option maxRecDepth 20000 in
theorem in_wsL_law0_r8 : ∀ w ∈ wsL_law0_r8, w ∈ lw_tbl := fun w h => (goodIn_q wsL_law0_r8 [190, 1012, 1016, 1020, 1024] [191, 42, 1009, 1010, 1011, 648, 1013, 1014, 1015, 847, 677, 1017, 1018, 1019, 676, 1021, 1022, 1023, 1025] rfl (by decide +kernel) (by decide +kernel) w h).1
set_option maxRecDepth 20000 in
theorem in_wsL_law0_r9 : ∀ w ∈ wsL_law0_r9, w ∈ lw_tbl := fun w h => (goodIn_q wsL_law0_r9 [1028, 444, 507, 54, 58, 61] [1026, 1027, 1029, 442, 443, 842, 988, 504, 505, 506, 50, 52, 0, 55, 56, 57, 59, 60] rfl (by decide +kernel) (by decide +kernel) w h).1
set_option maxRecDepth 20000 in
theorem in_wsL_law0_r10 : ∀ w ∈ wsL_law0_r10, w ∈ lw_tbl := fun w h => (goodIn_q wsL_law0_r10 [210, 215, 187, 175] [62, 43, 207, 208, 209, 680, 211, 212, 213, 214, 729, 184, 185, 186, 851, 730, 857, 172, 174, 2] rfl (by decide +kernel) (by decide +kernel) w h).1