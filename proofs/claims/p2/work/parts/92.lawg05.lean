set_option maxRecDepth 20000 in
theorem ggL_law2_X9_read : GoodIn wsL_law2 wsX9_read := goodIn_r _ [426, 146, 427, 428, 429, 430, 431, 432, 433, 434, 112, 108, 109, 147, 105, 435, 436, 437, 5, 438, 439, 440, 441, 442, 443, 444, 445, 446, 447, 448, 449, 450, 451, 452, 453, 454, 455, 456, 457, 458, 459, 460, 461, 110, 111, 462, 463, 464, 465, 466, 467, 468, 469, 470, 471, 106, 472, 473, 474, 475, 117, 118, 114, 476, 477, 478, 479, 480, 481, 482, 483, 484, 485, 486, 487, 488, 489, 490, 491, 492, 493, 494, 495, 496, 497, 498, 499, 500, 501, 502, 503, 504, 119, 505, 506, 507, 508, 509, 510, 511, 512, 513, 514, 515, 516, 517, 518, 519, 520, 521, 522, 523, 524, 525, 526, 527, 528, 529, 530, 531, 532, 113, 115, 116, 533, 534, 535, 536, 537, 538, 539, 540, 541, 149, 150, 151, 152, 644, 645, 646, 647, 648, 649, 650, 651, 652, 653, 654, 655, 656, 657, 658, 659, 660, 661, 662, 663, 664, 665, 666, 667, 668, 669, 670, 671, 672, 673] (by decide +kernel) (by decide +kernel)
set_option maxRecDepth 20000 in
theorem gL_law2_X9_read : GoodIn wsL_law2 (wsV RL 64 RX9 yX9_read wsX9_read) := goodIn_app (goodIn_of _ (by decide +kernel)) ggL_law2_X9_read
set_option maxRecDepth 20000 in
theorem ggL_law2_X8_wrong : GoodIn wsL_law2 wsX8_wrong := goodIn_r _ [545, 34, 638, 639, 640, 641, 642, 643] (by decide +kernel) (by decide +kernel)
set_option maxRecDepth 20000 in
theorem gL_law2_X8_wrong : GoodIn wsL_law2 (wsV RL 65 RX8 yX8_wrong wsX8_wrong) := goodIn_app (goodIn_of _ (by decide +kernel)) ggL_law2_X8_wrong
set_option maxRecDepth 20000 in
theorem ggL_law2_X9_wrong : GoodIn wsL_law2 wsX9_wrong := goodIn_r _ [549, 146, 112, 644, 645, 646, 647, 648, 649, 650, 651, 652, 653, 654, 655, 656, 657, 658, 659, 660, 661, 662, 663, 664, 665, 666, 667, 668, 669, 670, 671, 672, 673] (by decide +kernel) (by decide +kernel)
set_option maxRecDepth 20000 in
theorem gL_law2_X9_wrong : GoodIn wsL_law2 (wsV RL 68 RX9 yX9_wrong wsX9_wrong) := goodIn_app (goodIn_of _ (by decide +kernel)) ggL_law2_X9_wrong
