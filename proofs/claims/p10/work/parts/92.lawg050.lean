set_option maxRecDepth 20000 in
theorem ggL_law2_X8_wrong : GoodIn wsL_law2 wsX8_wrong := goodIn_r _ [541, 34, 634, 635, 636, 637, 638, 639] (by decide +kernel) (by decide +kernel)
set_option maxRecDepth 20000 in
theorem gL_law2_X8_wrong : GoodIn wsL_law2 (wsV RL 62 RX8 yX8_wrong wsX8_wrong) := goodIn_app (goodIn_of _ (by decide +kernel)) ggL_law2_X8_wrong
