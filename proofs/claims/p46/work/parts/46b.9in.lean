set_option maxRecDepth 20000 in
theorem in_wsL_law0_r11 : ∀ w ∈ wsL_law0_r11, w ∈ lw_tbl := fun w h => (goodIn_q wsL_law0_r11 [179, 219, 224, 228, 232] [176, 177, 178, 216, 217, 218, 220, 221, 222, 223, 225, 226, 227, 853, 761, 229, 230, 231, 760] rfl (by decide +kernel) (by decide +kernel) w h).1
set_option maxRecDepth 20000 in
theorem in_wsL_law0_r12 : ∀ w ∈ wsL_law0_r12, w ∈ lw_tbl := fun w h => (goodIn_q wsL_law0_r12 [236, 239, 255, 243, 247] [233, 234, 235, 772, 841, 237, 238, 44, 775, 764, 766, 253, 254, 240, 241, 242, 244, 245, 246] rfl (by decide +kernel) (by decide +kernel) w h).1
set_option maxRecDepth 20000 in
theorem in_wsL_law0_r13 : ∀ w ∈ wsL_law0_r13, w ∈ lw_tbl := fun w h => (goodIn_q wsL_law0_r13 [251, 260, 49, 157] [248, 249, 250, 252, 256, 258, 3, 781, 770, 738, 46, 47, 48, 683, 849, 154, 155, 156, 158, 160] rfl (by decide +kernel) (by decide +kernel) w h).1
set_option maxRecDepth 20000 in
theorem in_wsL_law0_r14 : ∀ w ∈ wsL_law0_r14, w ∈ lw_tbl := fun w h => (goodIn_q wsL_law0_r14 [161, 166, 488, 171, 183] [162, 163, 164, 165, 485, 486, 487, 168, 169, 170, 698, 701, 703, 706, 709, 180, 181, 182, 388] rfl (by decide +kernel) (by decide +kernel) w h).1
set_option maxRecDepth 20000 in
theorem in_wsL_law0_r15 : ∀ w ∈ wsL_law0_r15, w ∈ lw_tbl := fun w h => (goodIn_q wsL_law0_r15 [391, 382, 373, 377, 396] [389, 390, 392, 380, 381, 740, 736, 383, 370, 371, 372, 811, 374, 375, 376, 378, 393, 394, 395] rfl (by decide +kernel) (by decide +kernel) w h).1
set_option maxRecDepth 20000 in
theorem in_wsL_law0_r16 : ∀ w ∈ wsL_law0_r16, w ∈ lw_tbl := fun w h => (goodIn_q wsL_law0_r16 [400, 404, 340, 344] [890, 397, 398, 399, 846, 675, 883, 682, 421, 401, 402, 403, 704, 335, 337, 338, 339, 341, 342, 343] rfl (by decide +kernel) (by decide +kernel) w h).1
set_option maxRecDepth 20000 in
theorem in_wsL_law0_r17 : ∀ w ∈ wsL_law0_r17, w ∈ lw_tbl := fun w h => (goodIn_q wsL_law0_r17 [349, 353, 357, 361, 408] [345, 346, 347, 348, 350, 351, 352, 354, 355, 356, 358, 359, 360, 405, 406, 407, 409, 410, 411] rfl (by decide +kernel) (by decide +kernel) w h).1
set_option maxRecDepth 20000 in
theorem in_wsL_law0_r18 : ∀ w ∈ wsL_law0_r18, w ∈ lw_tbl := fun w h => (goodIn_q wsL_law0_r18 [412, 416, 420, 426, 431, 435] [413, 414, 415, 700, 418, 419, 422, 424, 14, 427, 428, 430, 15, 432, 434, 16, 436, 438] rfl (by decide +kernel) (by decide +kernel) w h).1
set_option maxRecDepth 20000 in
theorem in_wsL_law0_r19 : ∀ w ∈ wsL_law0_r19, w ∈ lw_tbl := fun w h => (goodIn_q wsL_law0_r19 [439, 264, 268, 272, 276, 280] [17, 440, 261, 262, 263, 265, 266, 267, 731, 269, 270, 271, 273, 274, 275, 277, 279, 4] rfl (by decide +kernel) (by decide +kernel) w h).1
set_option maxRecDepth 20000 in
theorem in_wsL_law0_r20 : ∀ w ∈ wsL_law0_r20, w ∈ lw_tbl := fun w h => (goodIn_q wsL_law0_r20 [284, 289, 574, 579] [762, 777, 281, 282, 283, 285, 286, 287, 288, 571, 572, 573, 575, 576, 578, 20, 855, 813, 580, 581] rfl (by decide +kernel) (by decide +kernel) w h).1