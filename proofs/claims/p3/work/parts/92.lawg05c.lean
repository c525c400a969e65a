set_option maxRecDepth 20000 in
theorem ggL_law2_X9_read_q2 : GoodIn wsL_law2 (((wsX9_read).drop 60).drop 60) := goodIn_r _ [532, 113, 115, 116, 533, 534, 535, 536, 537, 538, 539, 540, 541, 149, 150, 151, 152, 644, 645, 646, 647, 648, 649, 650, 651, 652, 653, 654, 655, 656, 657, 658, 659, 660, 661, 662, 663, 664, 665, 666, 667, 668, 669, 670, 671, 672, 673] (by decide +kernel) (by decide +kernel)
