set_option maxRecDepth 20000 in
theorem ggX9_init_X9_none : GoodIn wsX9_init wsX9_none := goodIn_r _ [38, 4] (by decide +kernel) (by decide +kernel)
set_option maxRecDepth 20000 in
theorem gX9_init_X9_none : GoodIn wsX9_init (va_wsS RX9 33 yX9_none wsX9_none) := goodIn_app (goodIn_of _ (by decide +kernel)) ggX9_init_X9_none
