theorem ggL_law2_X9_read : GoodIn wsL_law2 wsX9_read := (goodIn_td 60 ggL_law2_X9_read_q0 (goodIn_td 60 ggL_law2_X9_read_q1 ggL_law2_X9_read_q2))
set_option maxRecDepth 20000 in
theorem gL_law2_X9_read : GoodIn wsL_law2 (wsV RL 64 RX9 yX9_read wsX9_read) := goodIn_app (goodIn_of _ (by decide +kernel)) ggL_law2_X9_read
set_option maxRecDepth 20000 in
theorem ggL_law2_X8_wrong : GoodIn wsL_law2 wsX8_wrong := goodIn_r _ [545, 34, 638, 639, 640, 641, 642, 643] (by decide +kernel) (by decide +kernel)
set_option maxRecDepth 20000 in
theorem gL_law2_X8_wrong : GoodIn wsL_law2 (wsV RL 65 RX8 yX8_wrong wsX8_wrong) := goodIn_app (goodIn_of _ (by decide +kernel)) ggL_law2_X8_wrong
set_option maxRecDepth 20000 in
theorem ggL_law2_X9_wrong : GoodIn wsL_law2 wsX9_wrong := goodIn_r _ [549, 146, 112, 644, 645, 646, 647, 648, 649, 650, 651, 652, 653, 654, 655, 656, 657, 658, 659, 660, 661, 662, 663, 664, 665, 666, 667, 668, 669, 670, 671, 672, 673] (by decide +kernel) (by decide +kernel)
set_option maxRecDepth 20000 in
theorem gL_law2_X9_wrong : GoodIn wsL_law2 (wsV RL 68 RX9 yX9_wrong wsX9_wrong) := goodIn_app (goodIn_of _ (by decide +kernel)) ggL_law2_X9_wrong
