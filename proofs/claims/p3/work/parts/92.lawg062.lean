set_option maxRecDepth 20000 in
theorem ggL_law2_L_item2 : GoodIn wsL_law2 wsL_item2 := goodIn_ca (goodIn_r _ [583, 553, 584, 585, 586, 2, 587, 558, 559, 29, 25, 588, 589, 590, 28, 591, 59, 568, 561, 562, 563, 61, 592, 593, 594, 595, 60, 58, 596, 597, 296, 297, 24, 298, 51, 638, 639, 640, 641, 642, 643, 678, 679, 680, 681, 682, 683, 684, 677] (by decide +kernel) (by decide +kernel)) (goodIn_sub (fun _ h => List.mem_append_right _ h) (by decide +kernel))
set_option maxRecDepth 20000 in
theorem gL_law2_L_item2 : GoodIn wsL_law2 (va_wsS RL 73 yL_item wsL_item2) := goodIn_app (goodIn_of _ (by decide +kernel)) ggL_law2_L_item2
