set_option maxRecDepth 20000 in
theorem ggL_law2_L_page2 : GoodIn wsL_law2 wsL_page2 := goodIn_ca (goodIn_r _ [548, 549, 550, 551, 552, 2, 553, 554, 555, 29, 556, 557, 558, 28, 559, 61, 560, 561, 562, 563, 56, 564, 565, 566, 567, 568, 59, 569, 570, 571, 572, 57, 634, 635, 636, 637, 638, 639, 674, 675, 676, 677, 678, 679, 680] (by decide +kernel) (by decide +kernel)) (goodIn_sub (fun _ h => List.mem_append_right _ h) (by decide +kernel))
set_option maxRecDepth 20000 in
theorem gL_law2_L_page2 : GoodIn wsL_law2 (va_wsS RL 66 yL_page wsL_page2) := goodIn_app (goodIn_of _ (by decide +kernel)) ggL_law2_L_page2
