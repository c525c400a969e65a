set_option maxRecDepth 20000 in
theorem ggL_law2_L_cut : GoodIn wsL_law2 wsL_cut := goodIn_ca (goodIn_r _ [155, 124, 156, 157, 158, 2, 159, 130, 131, 17, 160, 161, 162, 16, 163, 41, 138, 139, 140, 141, 638, 639, 640, 641, 642, 643, 674, 675] (by decide +kernel) (by decide +kernel)) (goodIn_sub (fun _ h => List.mem_append_left _ (List.mem_append_left _ (List.mem_append_left _ (List.mem_append_right _ h)))) (by decide +kernel))
set_option maxRecDepth 20000 in
theorem gL_law2_L_cut : GoodIn wsL_law2 (va_wsS RL 49 yL_cut wsL_cut) := goodIn_app (goodIn_of _ (by decide +kernel)) ggL_law2_L_cut
