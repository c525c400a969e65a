theorem ggL_law2_X8_init : GoodIn wsL_law2 wsX8_init := (goodIn_td 60 ggL_law2_X8_init_q0 (goodIn_td 60 ggL_law2_X8_init_q1 ggL_law2_X8_init_q2))
set_option maxRecDepth 20000 in
theorem gL_law2_X8_init : GoodIn wsL_law2 (wsX8_init) := ggL_law2_X8_init
