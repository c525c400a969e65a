theorem ggL_law2_X9_read : GoodIn wsL_law2 wsX9_read := (goodIn_td 60 ggL_law2_X9_read_q0 (goodIn_td 60 ggL_law2_X9_read_q1 ggL_law2_X9_read_q2))
set_option maxRecDepth 20000 in
theorem gL_law2_X9_read : GoodIn wsL_law2 (wsV RL 61 RX9 yX9_read wsX9_read) := goodIn_app (goodIn_of _ (by decide +kernel)) ggL_law2_X9_read
