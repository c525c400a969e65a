set_option maxRecDepth 20000 in
theorem ggL_law2_X8_most : GoodIn wsL_law2 wsX8_most := goodIn_r _ [613, 29, 614, 615, 616, 28, 617, 618, 619, 620, 621, 62, 60, 622, 312, 313, 314, 623, 624, 625, 626, 627, 628, 629, 634, 635, 636, 637, 638, 639, 674, 675, 676, 677, 678, 679, 680] (by decide +kernel) (by decide +kernel)
set_option maxRecDepth 20000 in
theorem gL_law2_X8_most : GoodIn wsL_law2 (wsV RL 79 RX8 yX8_most wsX8_most) := goodIn_app (goodIn_of _ (by decide +kernel)) ggL_law2_X8_most
