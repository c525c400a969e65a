set_option maxRecDepth 20000 in
theorem ggL_law2_L_page2 : GoodIn wsL_law2 wsL_page2 := goodIn_ca (goodIn_r _ [552, 553, 554, 555, 556, 2, 557, 558, 559, 29, 560, 561, 562, 28, 563, 61, 564, 565, 566, 567, 56, 568, 569, 570, 571, 572, 59, 573, 574, 575, 576, 57, 638, 639, 640, 641, 642, 643, 678, 679, 680, 681, 682, 683, 684] (by decide +kernel) (by decide +kernel)) (goodIn_sub (fun _ h => List.mem_append_right _ h) (by decide +kernel))
set_option maxRecDepth 20000 in
theorem gL_law2_L_page2 : GoodIn wsL_law2 (va_wsS RL 69 yL_page wsL_page2) := goodIn_app (goodIn_of _ (by decide +kernel)) ggL_law2_L_page2
set_option maxRecDepth 20000 in
theorem ggL_law2_X9_page : GoodIn wsL_law2 wsX9_page := goodIn_r _ [580, 146, 427, 428, 113, 114, 116, 149, 150, 151, 5, 152, 644, 645, 646, 647, 648, 649, 650, 651, 652, 653, 654, 655, 656, 657, 658, 659, 660, 661, 662, 663, 664, 665, 666, 667, 668, 669, 670, 671, 672, 673] (by decide +kernel) (by decide +kernel)
set_option maxRecDepth 20000 in
theorem gL_law2_X9_page : GoodIn wsL_law2 (wsV RL 72 RX9 yX9_page wsX9_page) := goodIn_app (goodIn_of _ (by decide +kernel)) ggL_law2_X9_page
set_option maxRecDepth 20000 in
theorem ggL_law2_L_item2 : GoodIn wsL_law2 wsL_item2 := goodIn_ca (goodIn_r _ [583, 553, 584, 585, 586, 2, 587, 558, 559, 29, 25, 588, 589, 590, 28, 591, 59, 568, 561, 562, 563, 61, 592, 593, 594, 595, 60, 58, 596, 597, 296, 297, 24, 298, 51, 638, 639, 640, 641, 642, 643, 678, 679, 680, 681, 682, 683, 684, 677] (by decide +kernel) (by decide +kernel)) (goodIn_sub (fun _ h => List.mem_append_right _ h) (by decide +kernel))
set_option maxRecDepth 20000 in
theorem gL_law2_L_item2 : GoodIn wsL_law2 (va_wsS RL 73 yL_item wsL_item2) := goodIn_app (goodIn_of _ (by decide +kernel)) ggL_law2_L_item2
