set_option maxRecDepth 20000 in
theorem in_wsL_law0_r1 : ∀ w ∈ wsL_law0_r1, w ∈ lw_tbl := fun w h => (goodIn_q wsL_law0_r1 [65, 68, 73] [61, 62, 42, 1129, 1130, 51, 344, 63, 64, 66, 67, 69, 70, 43, 345, 346, 315, 316, 50, 347, 72] rfl (by decide +kernel) (by decide +kernel) w h).1
set_option maxRecDepth 20000 in
theorem in_wsL_law0_r2 : ∀ w ∈ wsL_law0_r2, w ∈ lw_tbl := fun w h => (goodIn_q wsL_law0_r2 [] [74, 75, 76, 44, 280, 102, 103, 45, 282, 124, 125, 46, 285, 156, 157, 47, 287, 187, 188, 48, 289, 242, 243, 49] rfl (by decide +kernel) (by decide +kernel) w h).1
set_option maxRecDepth 20000 in
theorem in_wsL_law0_r3 : ∀ w ∈ wsL_law0_r3, w ∈ lw_tbl := fun w h => (goodIn_q wsL_law0_r3 [79, 106, 128] [291, 101, 293, 295, 78, 80, 84, 86, 87, 88, 105, 107, 112, 114, 127, 129, 155, 130, 132, 135, 138] rfl (by decide +kernel) (by decide +kernel) w h).1
set_option maxRecDepth 20000 in
theorem in_wsL_law0_r4 : ∀ w ∈ wsL_law0_r4, w ∈ lw_tbl := fun w h => (goodIn_q wsL_law0_r4 [160, 191, 246] [141, 159, 161, 165, 167, 168, 170, 172, 190, 192, 196, 198, 200, 203, 206, 208, 209, 211, 214, 217, 245] rfl (by decide +kernel) (by decide +kernel) w h).1
set_option maxRecDepth 20000 in
theorem in_wsL_law0_r5 : ∀ w ∈ wsL_law0_r5, w ∈ lw_tbl := fun w h => (goodIn_q wsL_law0_r5 [319, 1133] [247, 251, 253, 255, 257, 259, 261, 318, 320, 322, 323, 324, 325, 326, 327, 1131, 1132, 1134, 1135, 1136, 52, 1288] rfl (by decide +kernel) (by decide +kernel) w h).1
set_option maxRecDepth 20000 in
theorem in_wsL_law0_r6 : ∀ w ∈ wsL_law0_r6, w ∈ lw_tbl := fun w h => (goodIn_q wsL_law0_r6 [1139] [1138, 1140, 1148, 1150, 1152, 1154, 1157, 1159, 1161, 1163, 1165, 1167, 1171, 1173, 1175, 1177, 1181, 1183, 1185, 1187, 1189, 1191, 1193] rfl (by decide +kernel) (by decide +kernel) w h).1
set_option maxRecDepth 20000 in
theorem in_wsL_law0_r7 : ∀ w ∈ wsL_law0_r7, w ∈ lw_tbl := fun w h => (goodIn_q wsL_law0_r7 [1143, 614] [1195, 1197, 1201, 1203, 1205, 1207, 1209, 1211, 1213, 1141, 1142, 606, 607, 41, 608, 609, 610, 611, 612, 613, 281, 82] rfl (by decide +kernel) (by decide +kernel) w h).1
set_option maxRecDepth 20000 in
theorem in_wsL_law0_r8 : ∀ w ∈ wsL_law0_r8, w ∈ lw_tbl := fun w h => (goodIn_q wsL_law0_r8 [617, 620, 691, 711, 1302] [615, 616, 618, 619, 621, 56, 689, 690, 692, 57, 708, 709, 710, 81, 1299, 1300, 1301, 1289, 1147] rfl (by decide +kernel) (by decide +kernel) w h).1
set_option maxRecDepth 20000 in
theorem in_wsL_law0_r9 : ∀ w ∈ wsL_law0_r9, w ∈ lw_tbl := fun w h => (goodIn_q wsL_law0_r9 [1305, 1309, 1298, 718] [1149, 1151, 1153, 1303, 1304, 1306, 1308, 27, 1295, 1296, 1297, 712, 713, 714, 715, 716, 717, 284, 110, 719] rfl (by decide +kernel) (by decide +kernel) w h).1
set_option maxRecDepth 20000 in
theorem in_wsL_law0_r10 : ∀ w ∈ wsL_law0_r10, w ∈ lw_tbl := fun w h => (goodIn_q wsL_law0_r10 [722, 1313, 730, 734] [720, 721, 109, 1310, 1311, 1312, 1156, 1158, 723, 724, 725, 726, 727, 728, 729, 116, 286, 731, 733, 14] rfl (by decide +kernel) (by decide +kernel) w h).1
set_option maxRecDepth 20000 in
theorem in_wsL_law0_r11 : ∀ w ∈ wsL_law0_r11, w ∈ lw_tbl := fun w h => (goodIn_q wsL_law0_r11 [491, 738, 487, 494, 758] [735, 489, 490, 736, 737, 739, 58, 484, 485, 486, 488, 493, 596, 755, 756, 757, 1314, 1315, 1316] rfl (by decide +kernel) (by decide +kernel) w h).1
set_option maxRecDepth 20000 in
theorem in_wsL_law0_r12 : ∀ w ∈ wsL_law0_r12, w ∈ lw_tbl := fun w h => (goodIn_q wsL_law0_r12 [1317, 1321, 765, 769] [1160, 1164, 1166, 1318, 1320, 28, 759, 760, 761, 762, 763, 764, 131, 134, 136, 139, 142, 766, 768, 15] rfl (by decide +kernel) (by decide +kernel) w h).1
set_option maxRecDepth 20000 in
theorem in_wsL_law0_r13 : ∀ w ∈ wsL_law0_r13, w ∈ lw_tbl := fun w h => (goodIn_q wsL_law0_r13 [773, 502, 1325, 1329, 1333] [770, 771, 772, 499, 500, 501, 1322, 1323, 1324, 1162, 1168, 1326, 1328, 29, 1330, 1332, 30, 1334, 1336] rfl (by decide +kernel) (by decide +kernel) w h).1
set_option maxRecDepth 20000 in
theorem in_wsL_law0_r14 : ∀ w ∈ wsL_law0_r14, w ∈ lw_tbl := fun w h => (goodIn_q wsL_law0_r14 [1337, 780, 600, 605] [31, 774, 775, 776, 777, 778, 779, 288, 163, 294, 279, 597, 598, 599, 113, 601, 602, 603, 604, 162] rfl (by decide +kernel) (by decide +kernel) w h).1
set_option maxRecDepth 20000 in
theorem in_wsL_law0_r15 : ∀ w ∈ wsL_law0_r15, w ∈ lw_tbl := fun w h => (goodIn_q wsL_law0_r15 [784, 789, 1341, 1345] [781, 782, 783, 785, 786, 787, 788, 1338, 1339, 1340, 1170, 1214, 1145, 1342, 1343, 1344, 1169, 1346, 1347, 1348] rfl (by decide +kernel) (by decide +kernel) w h).1
set_option maxRecDepth 20000 in
theorem in_wsL_law0_r16 : ∀ w ∈ wsL_law0_r16, w ∈ lw_tbl := fun w h => (goodIn_q wsL_law0_r16 [1349, 796, 800, 386] [790, 791, 792, 793, 794, 795, 290, 194, 797, 798, 799, 193, 801, 384, 385, 207, 278, 387, 388, 59] rfl (by decide +kernel) (by decide +kernel) w h).1
set_option maxRecDepth 20000 in
theorem in_wsL_law0_r17 : ∀ w ∈ wsL_law0_r17, w ∈ lw_tbl := fun w h => (goodIn_q wsL_law0_r17 [389, 405, 393, 397, 401, 370] [210, 197, 199, 403, 404, 390, 391, 392, 394, 395, 396, 398, 399, 400, 402, 367, 369, 0] rfl (by decide +kernel) (by decide +kernel) w h).1