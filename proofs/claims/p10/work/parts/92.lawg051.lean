set_option maxRecDepth 20000 in
theorem ggL_law2_X9_wrong : GoodIn wsL_law2 wsX9_wrong := goodIn_r _ [545, 146, 112, 640, 641, 642, 643, 644, 645, 646, 647, 648, 649, 650, 651, 652, 653, 654, 655, 656, 657, 658, 659, 660, 661, 662, 663, 664, 665, 666, 667, 668, 669] (by decide +kernel) (by decide +kernel)
set_option maxRecDepth 20000 in
theorem gL_law2_X9_wrong : GoodIn wsL_law2 (wsV RL 65 RX9 yX9_wrong wsX9_wrong) := goodIn_app (goodIn_of _ (by decide +kernel)) ggL_law2_X9_wrong
