set_option maxRecDepth 20000 in
theorem ggL_law2_X8_width : GoodIn wsL_law2 wsX8_width := goodIn_r _ [171, 21, 172, 173, 174, 20, 175, 46, 176, 177, 178, 634, 635, 636, 637, 638, 639, 672] (by decide +kernel) (by decide +kernel)
set_option maxRecDepth 20000 in
theorem gL_law2_X8_width : GoodIn wsL_law2 (wsV RL 53 RX8 yX8_width wsX8_width) := goodIn_app (goodIn_of _ (by decide +kernel)) ggL_law2_X8_width
