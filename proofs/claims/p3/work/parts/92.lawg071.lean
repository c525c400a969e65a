set_option maxRecDepth 20000 in
theorem ggL_law2_X8_conv : GoodIn wsL_law2 wsX8_conv := goodIn_r _ [605, 25, 606, 607, 608, 24, 609, 51, 638, 639, 640, 641, 642, 643, 677] (by decide +kernel) (by decide +kernel)
set_option maxRecDepth 20000 in
theorem gL_law2_X8_conv : GoodIn wsL_law2 (wsV RL 77 RX8 yX8_conv wsX8_conv) := goodIn_app (goodIn_of _ (by decide +kernel)) ggL_law2_X8_conv
