set_option maxRecDepth 20000 in
theorem ggL_law2_X8_most : GoodIn wsL_law2 wsX8_most := goodIn_r _ [617, 29, 618, 619, 620, 28, 621, 622, 623, 624, 625, 62, 60, 626, 316, 317, 318, 627, 628, 629, 630, 631, 632, 633, 638, 639, 640, 641, 642, 643, 678, 679, 680, 681, 682, 683, 684] (by decide +kernel) (by decide +kernel)
set_option maxRecDepth 20000 in
theorem gL_law2_X8_most : GoodIn wsL_law2 (wsV RL 82 RX8 yX8_most wsX8_most) := goodIn_app (goodIn_of _ (by decide +kernel)) ggL_law2_X8_most
