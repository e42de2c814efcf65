set_option maxRecDepth 20000 in
theorem ggX9_draw_L_cell : GoodIn wsX9_draw wsL_cell := goodIn_q _ [5] [6] rfl (by decide +kernel) (by decide +kernel)
set_option maxRecDepth 20000 in
theorem gX9_draw_L_cell_n57 : GoodIn wsX9_draw (wsL_cell) := ggX9_draw_L_cell
set_option maxRecDepth 20000 in
theorem ggX9_draw_L_below : GoodIn wsX9_draw wsL_below := goodIn_q _ [8] [9] rfl (by decide +kernel) (by decide +kernel)
set_option maxRecDepth 20000 in
theorem gX9_draw_L_below_n63 : GoodIn wsX9_draw (wsL_below) := ggX9_draw_L_below
