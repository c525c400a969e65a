set_option maxRecDepth 20000 in
theorem ggL_law2_X9_init : GoodIn wsL_law2 wsX9_init := goodIn_r _ [103, 104, 12, 13, 39, 105, 106, 107, 108, 109, 110, 111, 112, 113, 114, 115, 116, 117, 118, 119, 644, 645, 646, 647, 648, 649, 650, 651, 652, 653, 654, 655, 656, 657, 658, 659, 660, 661, 662, 663, 664, 665, 666, 667, 668, 669, 670, 671, 672, 673] (by decide +kernel) (by decide +kernel)
set_option maxRecDepth 20000 in
theorem gL_law2_X9_init : GoodIn wsL_law2 (wsX9_init) := ggL_law2_X9_init
set_option maxRecDepth 20000 in
theorem ggL_law2_L_add : GoodIn wsL_law2 wsL_add := goodIn_ca (goodIn_ca (goodIn_r _ [123, 124, 125, 126, 127, 128, 2, 129, 130, 131, 132, 133, 17, 134, 135, 136, 16, 137, 41, 40, 138, 139, 140, 141, 638, 639, 640, 641, 642, 643, 674, 675] (by decide +kernel) (by decide +kernel)) (goodIn_sub (fun _ h => List.mem_append_left _ (List.mem_append_left _ (List.mem_append_left _ (List.mem_append_right _ h)))) (by decide +kernel))) (goodIn_sub (fun _ h => List.mem_append_left _ (List.mem_append_left _ (List.mem_append_right _ h))) (by decide +kernel))
set_option maxRecDepth 20000 in
theorem gL_law2_L_add : GoodIn wsL_law2 (va_wsS RL 43 yL_add wsL_add) := goodIn_app (goodIn_of _ (by decide +kernel)) ggL_law2_L_add
set_option maxRecDepth 20000 in
theorem ggL_law2_X9_add : GoodIn wsL_law2 wsX9_add := goodIn_r _ [145, 146, 147, 105, 148, 149, 150, 151, 5, 152, 644, 645, 646, 647, 648, 649, 650, 651, 652, 653, 654, 655, 656, 657, 658, 659, 660, 661, 662, 663, 664, 665, 666, 667, 668, 669, 670, 671, 672, 673] (by decide +kernel) (by decide +kernel)
set_option maxRecDepth 20000 in
theorem gL_law2_X9_add : GoodIn wsL_law2 (wsV RL 48 RX9 yX9_add wsX9_add) := goodIn_app (goodIn_of _ (by decide +kernel)) ggL_law2_X9_add
