set_option maxRecDepth 20000 in
theorem in_wsL_law0_r21 : ∀ w ∈ wsL_law0_r21, w ∈ lw_tbl := fun w h => (goodIn_q wsL_law0_r21 [582, 587, 468, 591, 484, 596] [583, 584, 586, 21, 465, 466, 467, 588, 590, 22, 481, 482, 483, 592, 593, 595, 23, 597] rfl (by decide +kernel) (by decide +kernel) w h).1
set_option maxRecDepth 20000 in
theorem in_wsL_law0_r22 : ∀ w ∈ wsL_law0_r22, w ∈ lw_tbl := fun w h => (goodIn_q wsL_law0_r22 [600, 604, 608, 613] [598, 599, 601, 603, 24, 605, 607, 25, 493, 498, 503, 609, 516, 521, 610, 611, 612, 614, 615, 616] rfl (by decide +kernel) (by decide +kernel) w h).1
set_option maxRecDepth 20000 in
theorem in_wsL_law0_r23 : ∀ w ∈ wsL_law0_r23, w ∈ lw_tbl := fun w h => (goodIn_q wsL_law0_r23 [617, 621, 625, 529, 533] [618, 620, 26, 622, 623, 624, 526, 527, 528, 530, 531, 532, 566, 540, 539, 45, 534, 535, 536] rfl (by decide +kernel) (by decide +kernel) w h).1
set_option maxRecDepth 20000 in
theorem in_wsL_law0_r24 : ∀ w ∈ wsL_law0_r24, w ∈ lw_tbl := fun w h => (goodIn_q wsL_law0_r24 [537, 544, 549, 554, 559] [538, 541, 542, 543, 545, 546, 547, 548, 550, 551, 552, 553, 555, 556, 557, 558, 560, 561, 562] rfl (by decide +kernel) (by decide +kernel) w h).1
set_option maxRecDepth 20000 in
theorem in_wsL_law0_r25 : ∀ w ∈ wsL_law0_r25, w ∈ lw_tbl := fun w h => (goodIn_q wsL_law0_r25 [564, 297, 301, 305, 310] [563, 565, 294, 295, 296, 298, 300, 5, 733, 302, 304, 6, 306, 307, 309, 7, 812, 825, 821] rfl (by decide +kernel) (by decide +kernel) w h).1
set_option maxRecDepth 20000 in
theorem in_wsL_law0_r26 : ∀ w ∈ wsL_law0_r26, w ∈ lw_tbl := fun w h => (goodIn_q wsL_law0_r26 [314, 321, 325] [311, 313, 8, 815, 817, 823, 819, 315, 316, 317, 318, 320, 9, 322, 323, 324, 779, 768, 656, 326, 327] rfl (by decide +kernel) (by decide +kernel) w h).1
set_option maxRecDepth 20000 in
theorem in_wsL_law0_r27 : ∀ w ∈ wsL_law0_r27, w ∈ lw_tbl := fun w h => (goodIn_q wsL_law0_r27 [330, 334, 365, 369] [329, 10, 650, 678, 331, 333, 11, 707, 710, 362, 363, 364, 366, 368, 12, 652, 379, 384, 386, 13] rfl (by decide +kernel) (by decide +kernel) w h).1
set_option maxRecDepth 20000 in
theorem in_wsL_law0_r28 : ∀ w ∈ wsL_law0_r28, w ∈ lw_tbl := fun w h => (goodIn_q wsL_law0_r28 [387, 570, 492, 502, 497, 525] [567, 568, 569, 489, 490, 491, 499, 500, 501, 494, 495, 496, 522, 523, 524, 517, 518, 519] rfl (by decide +kernel) (by decide +kernel) w h).1
set_option maxRecDepth 20000 in
theorem in_wsL_law0_r29 : ∀ w ∈ wsL_law0_r29, w ∈ lw_tbl := fun w h => (goodIn_q wsL_law0_r29 [520, 515, 511, 448, 456, 460] [512, 513, 514, 508, 509, 510, 445, 446, 447, 453, 454, 455, 457, 459, 18, 461, 462, 463] rfl (by decide +kernel) (by decide +kernel) w h).1
set_option maxRecDepth 20000 in
theorem in_wsL_law0_r30 : ∀ w ∈ wsL_law0_r30, w ∈ lw_tbl := fun w h => (goodIn_q wsL_law0_r30 [464, 452, 472, 476, 480, 293] [441, 449, 450, 451, 469, 470, 471, 473, 475, 19, 477, 478, 479, 290, 291, 292] rfl (by decide +kernel) (by decide +kernel) w h).1