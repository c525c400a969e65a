set_option maxRecDepth 20000 in
theorem ggL_law2_X8_conv : GoodIn wsL_law2 wsX8_conv := goodIn_r _ [601, 25, 602, 603, 604, 24, 605, 51, 634, 635, 636, 637, 638, 639, 673] (by decide +kernel) (by decide +kernel)
set_option maxRecDepth 20000 in
theorem gL_law2_X8_conv : GoodIn wsL_law2 (wsV RL 74 RX8 yX8_conv wsX8_conv) := goodIn_app (goodIn_of _ (by decide +kernel)) ggL_law2_X8_conv
