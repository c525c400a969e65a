set_option maxRecDepth 20000 in
theorem ggL_law2_L_page2 : GoodIn wsL_law2 wsL_page2 := goodIn_ca (goodIn_r _ [552, 553, 554, 555, 556, 2, 557, 558, 559, 29, 560, 561, 562, 28, 563, 61, 564, 565, 566, 567, 56, 568, 569, 570, 571, 572, 59, 573, 574, 575, 576, 57, 638, 639, 640, 641, 642, 643, 678, 679, 680, 681, 682, 683, 684] (by decide +kernel) (by decide +kernel)) (goodIn_sub (fun _ h => List.mem_append_right _ h) (by decide +kernel))
set_option maxRecDepth 20000 in
theorem gL_law2_L_page2 : GoodIn wsL_law2 (va_wsS RL 69 yL_page wsL_page2) := goodIn_app (goodIn_of _ (by decide +kernel)) ggL_law2_L_page2
