set_option maxRecDepth 20000 in
theorem ggL_law2_X8_init_q2 : GoodIn wsL_law2 (((wsX8_init).drop 60).drop 60) := goodIn_r _ [697, 698, 699, 700, 701, 702, 703] (by decide +kernel) (by decide +kernel)
