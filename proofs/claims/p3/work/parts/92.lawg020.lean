set_option maxRecDepth 20000 in
theorem ggL_law2_X9_init : GoodIn wsL_law2 wsX9_init := goodIn_r _ [103, 104, 12, 13, 39, 105, 106, 107, 108, 109, 110, 111, 112, 113, 114, 115, 116, 117, 118, 119, 644, 645, 646, 647, 648, 649, 650, 651, 652, 653, 654, 655, 656, 657, 658, 659, 660, 661, 662, 663, 664, 665, 666, 667, 668, 669, 670, 671, 672, 673] (by decide +kernel) (by decide +kernel)
set_option maxRecDepth 20000 in
theorem gL_law2_X9_init : GoodIn wsL_law2 (wsX9_init) := ggL_law2_X9_init
