set_option maxRecDepth 20000 in
theorem ggL_law2_X9_item : GoodIn wsL_law2 wsX9_item := goodIn_r _ [601, 146, 427, 428, 114, 117, 115, 149, 150, 151, 5, 152, 644, 645, 646, 647, 648, 649, 650, 651, 652, 653, 654, 655, 656, 657, 658, 659, 660, 661, 662, 663, 664, 665, 666, 667, 668, 669, 670, 671, 672, 673] (by decide +kernel) (by decide +kernel)
set_option maxRecDepth 20000 in
theorem gL_law2_X9_item : GoodIn wsL_law2 (wsV RL 76 RX9 yX9_item wsX9_item) := goodIn_app (goodIn_of _ (by decide +kernel)) ggL_law2_X9_item
