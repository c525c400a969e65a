set_option maxRecDepth 20000 in
theorem ggL_law2_L_item2 : GoodIn wsL_law2 wsL_item2 := goodIn_ca (goodIn_r _ [579, 549, 580, 581, 582, 2, 583, 554, 555, 29, 25, 584, 585, 586, 28, 587, 59, 564, 557, 558, 559, 61, 588, 589, 590, 591, 60, 58, 592, 593, 292, 293, 24, 294, 51, 634, 635, 636, 637, 638, 639, 674, 675, 676, 677, 678, 679, 680, 673] (by decide +kernel) (by decide +kernel)) (goodIn_sub (fun _ h => List.mem_append_right _ h) (by decide +kernel))
set_option maxRecDepth 20000 in
theorem gL_law2_L_item2 : GoodIn wsL_law2 (va_wsS RL 70 yL_item wsL_item2) := goodIn_app (goodIn_of _ (by decide +kernel)) ggL_law2_L_item2
