set_option maxRecDepth 20000 in
theorem ggL_page2_X8_page2 : GoodIn wsL_page2 wsX8_page2 := goodIn_ca (goodIn_r _ [6, 7, 8, 9, 10, 11, 12, 13, 14, 15, 16, 17, 18, 19, 20, 21, 22, 23, 24, 25, 26, 27, 28, 29, 30, 31, 32, 33, 34, 35, 36, 37, 38, 39, 40, 41, 42, 43, 44] (by decide +kernel) (by decide +kernel)) (goodIn_sub (fun _ h => List.mem_cons_of_mem _ (List.mem_append_right _ h)) (by decide +kernel))
set_option maxRecDepth 20000 in
theorem gL_page2_X8_page2 : GoodIn wsL_page2 (wsV RL 27 RX8 yX8_page wsX8_page2) := goodIn_app (goodIn_of _ (by decide +kernel)) ggL_page2_X8_page2
set_option maxRecDepth 20000 in
theorem ggL_item2_X8_item2 : GoodIn wsL_item2 wsX8_item2 := goodIn_ca (goodIn_r _ [6, 7, 8, 9, 10, 11, 12, 13, 14, 15, 16, 17, 18, 19, 20, 21, 22, 23, 24, 25, 26, 27, 28, 29, 30, 31, 32, 33, 34, 35, 36, 37, 38, 39, 40, 41, 42, 43, 44, 45, 46, 47, 48] (by decide +kernel) (by decide +kernel)) (goodIn_sub (fun _ h => List.mem_cons_of_mem _ (List.mem_append_right _ h)) (by decide +kernel))
set_option maxRecDepth 20000 in
theorem gL_item2_X8_item2 : GoodIn wsL_item2 (wsV RL 33 RX8 yX8_item wsX8_item2) := goodIn_app (goodIn_of _ (by decide +kernel)) ggL_item2_X8_item2
set_option maxRecDepth 20000 in
theorem ggL_law2_X8_init_q0 : GoodIn wsL_law2 ((wsX8_init).take 60) := goodIn_r _ [10, 11, 12, 13, 14, 15, 16, 17, 18, 19, 20, 21, 22, 23, 24, 25, 26, 27, 28, 29, 30, 31, 32, 33, 34, 35, 36, 37, 38, 39, 40, 41, 42, 43, 44, 45, 46, 47, 48, 49, 50, 51, 52, 53, 54, 55, 56, 57, 58, 59, 60, 61, 62, 63, 64, 65, 66, 67, 68, 69] (by decide +kernel) (by decide +kernel)
