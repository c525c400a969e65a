set_option maxRecDepth 20000 in
theorem ggL_law2_X9_thrown : GoodIn wsL_law2 wsX9_thrown := goodIn_r _ [156, 146, 644, 645, 646, 647, 648, 649, 650, 651, 652, 653, 654, 655, 656, 657, 658, 659, 660, 661, 662, 663, 664, 665, 666, 667, 668, 669, 670, 671, 672, 673] (by decide +kernel) (by decide +kernel)
set_option maxRecDepth 20000 in
theorem gL_law2_X9_thrown : GoodIn wsL_law2 (wsV RL 49 RX9 yX9_thrown wsX9_thrown) := goodIn_app (goodIn_of _ (by decide +kernel)) ggL_law2_X9_thrown
set_option maxRecDepth 20000 in
theorem ggL_law2_L_cut : GoodIn wsL_law2 wsL_cut := goodIn_ca (goodIn_r _ [159, 124, 160, 161, 162, 2, 163, 130, 131, 17, 164, 165, 166, 16, 167, 41, 138, 139, 140, 141, 638, 639, 640, 641, 642, 643, 674, 675] (by decide +kernel) (by decide +kernel)) (goodIn_sub (fun _ h => List.mem_append_left _ (List.mem_append_left _ (List.mem_append_left _ (List.mem_append_right _ h)))) (by decide +kernel))
set_option maxRecDepth 20000 in
theorem gL_law2_L_cut : GoodIn wsL_law2 (va_wsS RL 52 yL_cut wsL_cut) := goodIn_app (goodIn_of _ (by decide +kernel)) ggL_law2_L_cut
set_option maxRecDepth 20000 in
theorem ggL_law2_X9_cut : GoodIn wsL_law2 wsX9_cut := goodIn_r _ [171, 146, 147, 149, 150, 151, 5, 152, 644, 645, 646, 647, 648, 649, 650, 651, 652, 653, 654, 655, 656, 657, 658, 659, 660, 661, 662, 663, 664, 665, 666, 667, 668, 669, 670, 671, 672, 673] (by decide +kernel) (by decide +kernel)
set_option maxRecDepth 20000 in
theorem gL_law2_X9_cut : GoodIn wsL_law2 (wsV RL 55 RX9 yX9_cut wsX9_cut) := goodIn_app (goodIn_of _ (by decide +kernel)) ggL_law2_X9_cut
