set_option maxRecDepth 20000 in
theorem ggL_law2_L_add : GoodIn wsL_law2 wsL_add := goodIn_ca (goodIn_ca (goodIn_r _ [123, 124, 125, 126, 127, 128, 2, 129, 130, 131, 132, 133, 17, 134, 135, 136, 16, 137, 41, 40, 138, 139, 140, 141, 638, 639, 640, 641, 642, 643, 674, 675] (by decide +kernel) (by decide +kernel)) (goodIn_sub (fun _ h => List.mem_append_left _ (List.mem_append_left _ (List.mem_append_left _ (List.mem_append_right _ h)))) (by decide +kernel))) (goodIn_sub (fun _ h => List.mem_append_left _ (List.mem_append_left _ (List.mem_append_right _ h))) (by decide +kernel))
set_option maxRecDepth 20000 in
theorem gL_law2_L_add : GoodIn wsL_law2 (va_wsS RL 43 yL_add wsL_add) := goodIn_app (goodIn_of _ (by decide +kernel)) ggL_law2_L_add
