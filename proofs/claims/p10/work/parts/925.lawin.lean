set_option maxRecDepth 20000 in
theorem in_wsL_law0_r1 : ∀ w ∈ wsL_law0_r1, w ∈ lw_tbl := fun w h => (goodIn_r wsL_law0_r1 [61, 62, 42, 693, 694, 50, 934, 933, 63, 64, 65, 66, 67, 68, 69, 70, 43, 210, 83, 84, 44, 211, 93, 94] (by decide +kernel) (by decide +kernel) w h).1
set_option maxRecDepth 20000 in
theorem in_wsL_law0_r2 : ∀ w ∈ wsL_law0_r2, w ∈ lw_tbl := fun w h => (goodIn_r wsL_law0_r2 [45, 212, 103, 104, 46, 213, 131, 132, 47, 214, 215, 71, 72, 73, 74, 82, 75, 76, 85, 86, 87, 88, 89, 95] (by decide +kernel) (by decide +kernel) w h).1
set_option maxRecDepth 20000 in
theorem in_wsL_law0_r3 : ∀ w ∈ wsL_law0_r3, w ∈ lw_tbl := fun w h => (goodIn_r wsL_law0_r3 [96, 97, 98, 99, 105, 106, 107, 108, 109, 110, 111, 112, 113, 114, 115, 133, 134, 135, 136, 182, 183, 184, 185, 137] (by decide +kernel) (by decide +kernel) w h).1
set_option maxRecDepth 20000 in
theorem in_wsL_law0_r4 : ∀ w ∈ wsL_law0_r4, w ∈ lw_tbl := fun w h => (goodIn_r wsL_law0_r4 [138, 48, 186, 153, 154, 49, 187, 188, 181, 189, 190, 139, 140, 141, 142, 143, 144, 145, 155, 156, 157, 158, 159, 160] (by decide +kernel) (by decide +kernel) w h).1
set_option maxRecDepth 20000 in
theorem in_wsL_law0_r5 : ∀ w ∈ wsL_law0_r5, w ∈ lw_tbl := fun w h => (goodIn_r wsL_law0_r5 [161, 162, 163, 164, 165, 695, 696, 697, 698, 700, 702, 790, 703, 704, 705, 706, 712, 714, 715, 716, 717, 719, 727, 728] (by decide +kernel) (by decide +kernel) w h).1
set_option maxRecDepth 20000 in
theorem in_wsL_law0_r6 : ∀ w ∈ wsL_law0_r6, w ∈ lw_tbl := fun w h => (goodIn_r wsL_law0_r6 [274, 275, 41, 276, 277, 278, 279, 280, 281, 282, 283, 54, 356, 55, 352, 353, 354, 355, 372, 373, 374, 375, 791, 792] (by decide +kernel) (by decide +kernel) w h).1
set_option maxRecDepth 20000 in
theorem in_wsL_law0_r7 : ∀ w ∈ wsL_law0_r7, w ∈ lw_tbl := fun w h => (goodIn_r wsL_law0_r7 [793, 794, 699, 701, 799, 795, 797, 17, 798, 376, 377, 378, 379, 380, 381, 382, 383, 384, 385, 386, 800, 801, 802, 803] (by decide +kernel) (by decide +kernel) w h).1
set_option maxRecDepth 20000 in
theorem in_wsL_law0_r8 : ∀ w ∈ wsL_law0_r8, w ∈ lw_tbl := fun w h => (goodIn_r wsL_law0_r8 [229, 230, 231, 232, 233, 234, 235, 236, 237, 238, 239, 804, 805, 806, 807, 388, 389, 390, 391, 392, 393, 394, 395, 617] (by decide +kernel) (by decide +kernel) w h).1
set_option maxRecDepth 20000 in
theorem in_wsL_law0_r9 : ∀ w ∈ wsL_law0_r9, w ∈ lw_tbl := fun w h => (goodIn_r wsL_law0_r9 [59, 396, 397, 398, 399, 400, 402, 2, 403, 404, 405, 406, 407, 408, 409, 410, 411, 412, 413, 414, 415, 416, 417, 418] (by decide +kernel) (by decide +kernel) w h).1
set_option maxRecDepth 20000 in
theorem in_wsL_law0_r10 : ∀ w ∈ wsL_law0_r10, w ∈ lw_tbl := fun w h => (goodIn_r wsL_law0_r10 [419, 420, 421, 422, 423, 424, 425, 426, 427, 428, 429, 430, 431, 432, 433, 434, 56, 435, 436, 438, 440, 3, 441, 442] (by decide +kernel) (by decide +kernel) w h).1
set_option maxRecDepth 20000 in
theorem in_wsL_law0_r11 : ∀ w ∈ wsL_law0_r11, w ∈ lw_tbl := fun w h => (goodIn_r wsL_law0_r11 [443, 444, 445, 446, 447, 449, 4, 450, 451, 452, 453, 454, 455, 456, 457, 458, 459, 460, 461, 462, 463, 464, 465, 466] (by decide +kernel) (by decide +kernel) w h).1
set_option maxRecDepth 20000 in
theorem in_wsL_law0_r12 : ∀ w ∈ wsL_law0_r12, w ∈ lw_tbl := fun w h => (goodIn_r wsL_law0_r12 [467, 468, 469, 470, 471, 472, 473, 474, 475, 476, 477, 478, 479, 480, 482, 5, 483, 484, 485, 487, 6, 488, 489, 490] (by decide +kernel) (by decide +kernel) w h).1
set_option maxRecDepth 20000 in
theorem in_wsL_law0_r13 : ∀ w ∈ wsL_law0_r13, w ∈ lw_tbl := fun w h => (goodIn_r wsL_law0_r13 [491, 492, 493, 494, 495, 496, 497, 498, 500, 7, 501, 502, 503, 504, 505, 506, 507, 508, 509, 510, 512, 511, 57, 513] (by decide +kernel) (by decide +kernel) w h).1
set_option maxRecDepth 20000 in
theorem in_wsL_law0_r14 : ∀ w ∈ wsL_law0_r14, w ∈ lw_tbl := fun w h => (goodIn_r wsL_law0_r14 [265, 58, 266, 514, 515, 516, 517, 518, 520, 8, 521, 522, 523, 524, 525, 526, 527, 528, 529, 530, 532, 9, 533, 534] (by decide +kernel) (by decide +kernel) w h).1
set_option maxRecDepth 20000 in
theorem in_wsL_law0_r15 : ∀ w ∈ wsL_law0_r15, w ∈ lw_tbl := fun w h => (goodIn_r wsL_law0_r15 [535, 536, 537, 538, 539, 540, 541, 542, 543, 544, 545, 546, 547, 549, 10, 550, 551, 552, 553, 554, 555, 556, 557, 558] (by decide +kernel) (by decide +kernel) w h).1
set_option maxRecDepth 20000 in
theorem in_wsL_law0_r16 : ∀ w ∈ wsL_law0_r16, w ∈ lw_tbl := fun w h => (goodIn_r wsL_law0_r16 [559, 560, 561, 562, 563, 564, 565, 567, 11, 568, 569, 571, 12, 572, 573, 574, 575, 576, 577, 578, 580, 13, 581, 582] (by decide +kernel) (by decide +kernel) w h).1
set_option maxRecDepth 20000 in
theorem in_wsL_law0_r17 : ∀ w ∈ wsL_law0_r17, w ∈ lw_tbl := fun w h => (goodIn_r wsL_law0_r17 [583, 584, 585, 586, 587, 588, 589, 590, 592, 14, 593, 594, 595, 596, 597, 598, 599, 601, 15, 602, 603, 605, 16, 606] (by decide +kernel) (by decide +kernel) w h).1
set_option maxRecDepth 20000 in
theorem in_wsL_law0_r18 : ∀ w ∈ wsL_law0_r18, w ∈ lw_tbl := fun w h => (goodIn_r wsL_law0_r18 [607, 608, 609, 610, 611, 612, 613, 614, 615, 616, 633, 808, 809, 810, 811, 711, 713, 718, 720, 721, 812, 722, 725, 813] (by decide +kernel) (by decide +kernel) w h).1
set_option maxRecDepth 20000 in
theorem in_wsL_law0_r19 : ∀ w ∈ wsL_law0_r19, w ∈ lw_tbl := fun w h => (goodIn_r wsL_law0_r19 [815, 18, 816, 817, 818, 819, 820, 821, 822, 823, 825, 19, 826, 707, 708, 709, 831, 710, 827, 829, 20, 830, 832, 834] (by decide +kernel) (by decide +kernel) w h).1
set_option maxRecDepth 20000 in
theorem in_wsL_law0_r20 : ∀ w ∈ wsL_law0_r20, w ∈ lw_tbl := fun w h => (goodIn_r wsL_law0_r20 [21, 835, 836, 838, 22, 839, 726, 840, 842, 23, 843, 724, 844, 846, 24, 847, 848, 850, 25, 851, 852, 854, 26, 855] (by decide +kernel) (by decide +kernel) w h).1
set_option maxRecDepth 20000 in
theorem in_wsL_law0_r21 : ∀ w ∈ wsL_law0_r21, w ∈ lw_tbl := fun w h => (goodIn_r wsL_law0_r21 [856, 857, 859, 27, 860, 861, 863, 28, 864, 865, 867, 29, 868, 869, 871, 30, 872, 873, 875, 31, 876, 877, 879, 32] (by decide +kernel) (by decide +kernel) w h).1
set_option maxRecDepth 20000 in
theorem in_wsL_law0_r22 : ∀ w ∈ wsL_law0_r22, w ∈ lw_tbl := fun w h => (goodIn_r wsL_law0_r22 [880, 881, 883, 33, 884, 885, 887, 34, 888, 889, 891, 35, 892, 893, 895, 36, 896, 897, 899, 37, 900, 901, 903, 38] (by decide +kernel) (by decide +kernel) w h).1
set_option maxRecDepth 20000 in
theorem in_wsL_law0_r23 : ∀ w ∈ wsL_law0_r23, w ∈ lw_tbl := fun w h => (goodIn_r wsL_law0_r23 [904, 905, 907, 39, 908, 723, 909, 911, 40, 912, 240, 241, 242, 243, 913, 914, 915, 916, 634, 635, 636, 637, 638, 639] (by decide +kernel) (by decide +kernel) w h).1
set_option maxRecDepth 20000 in
theorem in_wsL_law0_r24 : ∀ w ∈ wsL_law0_r24, w ∈ lw_tbl := fun w h => (goodIn_r wsL_law0_r24 [640, 641, 646, 60, 642, 643, 644, 645, 662, 663, 664, 665, 666, 667, 668, 669, 670, 671, 672, 673, 674, 917, 918, 919] (by decide +kernel) (by decide +kernel) w h).1
set_option maxRecDepth 20000 in
theorem in_wsL_law0_r25 : ∀ w ∈ wsL_law0_r25, w ∈ lw_tbl := fun w h => (goodIn_r wsL_law0_r25 [920, 675, 676, 677, 678, 679, 680, 681, 682, 683, 684, 685, 687, 688, 689, 690, 691, 692, 921, 922, 923, 924, 244, 245] (by decide +kernel) (by decide +kernel) w h).1
set_option maxRecDepth 20000 in
theorem in_wsL_law0_r26 : ∀ w ∈ wsL_law0_r26, w ∈ lw_tbl := fun w h => (goodIn_r wsL_law0_r26 [246, 247, 248, 249, 250, 251, 925, 926, 927, 928, 252, 253, 254, 255, 256, 257, 258, 259, 260, 262, 0, 263, 264, 267] (by decide +kernel) (by decide +kernel) w h).1
set_option maxRecDepth 20000 in
theorem in_wsL_law0_r27 : ∀ w ∈ wsL_law0_r27, w ∈ lw_tbl := fun w h => (goodIn_r wsL_law0_r27 [268, 269, 270, 271, 272, 273, 929, 930, 931, 932] (by decide +kernel) (by decide +kernel) w h).1
set_option maxRecDepth 20000 in
theorem in_wsX80 : ∀ w ∈ wsX80, w ∈ lw_tbl := fun w h => (goodIn_r wsX80 [216, 218, 220, 222, 224, 226] (by decide +kernel) (by decide +kernel) w h).1
set_option maxRecDepth 20000 in
theorem in_wsX90 : ∀ w ∈ wsX90, w ∈ lw_tbl := fun w h => (goodIn_r wsX90 [729, 731, 733, 735, 737, 739, 741, 743, 745, 747, 749, 751, 753, 755, 757, 759, 761, 763, 765, 767, 769, 771, 773, 775, 777, 779, 781, 783, 785, 787] (by decide +kernel) (by decide +kernel) w h).1
set_option maxRecDepth 20000 in
theorem in_wsX00 : ∀ w ∈ wsX00, w ∈ lw_tbl := fun w h => (goodIn_r wsX00 [77, 79] (by decide +kernel) (by decide +kernel) w h).1
set_option maxRecDepth 20000 in
theorem in_wsX70 : ∀ w ∈ wsX70, w ∈ lw_tbl := fun w h => (goodIn_r wsX70 [90] (by decide +kernel) (by decide +kernel) w h).1
set_option maxRecDepth 20000 in
theorem in_wsX40 : ∀ w ∈ wsX40, w ∈ lw_tbl := fun w h => (goodIn_r wsX40 [100] (by decide +kernel) (by decide +kernel) w h).1
set_option maxRecDepth 20000 in
theorem in_wsX30 : ∀ w ∈ wsX30, w ∈ lw_tbl := fun w h => (goodIn_r wsX30 [116, 118, 120, 122, 124, 126, 128] (by decide +kernel) (by decide +kernel) w h).1
set_option maxRecDepth 20000 in
theorem in_wsX60 : ∀ w ∈ wsX60, w ∈ lw_tbl := fun w h => (goodIn_r wsX60 [191, 193, 195, 197, 199, 201, 203, 205, 207] (by decide +kernel) (by decide +kernel) w h).1
set_option maxRecDepth 20000 in
theorem in_wsX10 : ∀ w ∈ wsX10, w ∈ lw_tbl := fun w h => (goodIn_r wsX10 [146, 148, 150] (by decide +kernel) (by decide +kernel) w h).1
set_option maxRecDepth 20000 in
theorem in_wsX50 : ∀ w ∈ wsX50, w ∈ lw_tbl := fun w h => (goodIn_r wsX50 [166, 168, 170, 172, 174, 176, 178] (by decide +kernel) (by decide +kernel) w h).1
set_option maxRecDepth 20000 in
theorem wsL_law_in0 : ∀ w ∈ wsL_law0, w ∈ lw_tbl := fun w h => (List.mem_append.mp h).elim (fun h => (List.mem_append.mp h).elim (fun h => (List.mem_append.mp h).elim (fun h => (List.mem_append.mp h).elim (fun h => (List.mem_append.mp h).elim (fun h => (List.mem_append.mp h).elim (fun h => (List.mem_append.mp h).elim (fun h => (List.mem_append.mp h).elim (fun h => (List.mem_append.mp h).elim (fun h => (List.mem_append.mp h).elim (fun h => (List.mem_append.mp h).elim (fun h => in_wsL_law0_r1 w h) (fun h => (List.mem_append.mp h).elim (fun h => in_wsL_law0_r2 w h) (fun h => (List.mem_append.mp h).elim (fun h => in_wsL_law0_r3 w h) (fun h => (List.mem_append.mp h).elim (fun h => in_wsL_law0_r4 w h) (fun h => (List.mem_append.mp h).elim (fun h => in_wsL_law0_r5 w h) (fun h => (List.mem_append.mp h).elim (fun h => in_wsL_law0_r6 w h) (fun h => (List.mem_append.mp h).elim (fun h => in_wsL_law0_r7 w h) (fun h => (List.mem_append.mp h).elim (fun h => in_wsL_law0_r8 w h) (fun h => (List.mem_append.mp h).elim (fun h => in_wsL_law0_r9 w h) (fun h => (List.mem_append.mp h).elim (fun h => in_wsL_law0_r10 w h) (fun h => (List.mem_append.mp h).elim (fun h => in_wsL_law0_r11 w h) (fun h => (List.mem_append.mp h).elim (fun h => in_wsL_law0_r12 w h) (fun h => (List.mem_append.mp h).elim (fun h => in_wsL_law0_r13 w h) (fun h => (List.mem_append.mp h).elim (fun h => in_wsL_law0_r14 w h) (fun h => (List.mem_append.mp h).elim (fun h => in_wsL_law0_r15 w h) (fun h => (List.mem_append.mp h).elim (fun h => in_wsL_law0_r16 w h) (fun h => (List.mem_append.mp h).elim (fun h => in_wsL_law0_r17 w h) (fun h => (List.mem_append.mp h).elim (fun h => in_wsL_law0_r18 w h) (fun h => (List.mem_append.mp h).elim (fun h => in_wsL_law0_r19 w h) (fun h => (List.mem_append.mp h).elim (fun h => in_wsL_law0_r20 w h) (fun h => (List.mem_append.mp h).elim (fun h => in_wsL_law0_r21 w h) (fun h => (List.mem_append.mp h).elim (fun h => in_wsL_law0_r22 w h) (fun h => (List.mem_append.mp h).elim (fun h => in_wsL_law0_r23 w h) (fun h => (List.mem_append.mp h).elim (fun h => in_wsL_law0_r24 w h) (fun h => (List.mem_append.mp h).elim (fun h => in_wsL_law0_r25 w h) (fun h => (List.mem_append.mp h).elim (fun h => in_wsL_law0_r26 w h) (fun h => in_wsL_law0_r27 w h))))))))))))))))))))))))))) (fun h => in_wsX80 w h)) (fun h => in_wsX90 w h)) (fun h => in_wsX00 w h)) (fun h => in_wsX70 w h)) (fun h => in_wsX40 w h)) (fun h => in_wsX30 w h)) (fun h => in_wsX60 w h)) (fun h => in_wsX10 w h)) (fun h => in_wsX50 w h)) (fun h => absurd h List.not_mem_nil)
set_option maxRecDepth 20000 in
theorem wsL_law_x0 : ∀ w ∈ (vx_atS RX8 54 "java/lang/IllegalArgumentException" ["java/lang/RuntimeException", "java/lang/Exception"]).filter goodWord, w ∈ lw_tbl := fun w h => (goodIn_r _ [51, 305, 314, 319, 322, 324, 306, 307, 67, 68, 308, 313, 320, 340, 295, 341, 297, 342, 299, 309, 311, 301, 336, 337, 339, 301, 327, 328, 329, 330, 330, 331, 332, 333, 333, 334, 335, 336, 326, 284, 292, 293, 294, 296, 298, 300, 304, 303, 302] (by decide +kernel) (by decide +kernel) w h).1
set_option maxRecDepth 20000 in
theorem wsL_law_x1 : ∀ w ∈ (vx_atS RX8 65 "java/lang/IllegalStateException" ["java/lang/RuntimeException", "java/lang/Exception"]).filter goodWord, w ∈ lw_tbl := fun w h => (goodIn_r _ [51, 305, 314, 319, 322, 324, 306, 307, 67, 68, 308, 313, 320, 340, 295, 341, 297, 342, 299, 309, 311, 301, 336, 337, 339, 301, 367, 368, 369, 330, 330, 331, 332, 333, 333, 334, 335, 336, 366, 357, 359, 316, 360, 361, 362, 363, 304, 303, 364] (by decide +kernel) (by decide +kernel) w h).1
set_option maxRecDepth 20000 in
theorem wsL_law_x2 : ∀ w ∈ (vx_atS RX8 91 "java/lang/UnsupportedOperationException" ["java/lang/RuntimeException", "java/lang/Exception"]).filter goodWord, w ∈ lw_tbl := fun w h => (goodIn_r _ [51, 305, 314, 319, 322, 324, 306, 307, 67, 68, 308, 313, 320, 340, 295, 341, 297, 342, 299, 309, 311, 301, 336, 337, 339, 301, 628, 629, 630, 330, 330, 331, 332, 333, 333, 334, 335, 336, 627, 618, 620, 317, 621, 622, 623, 624, 304, 303, 625] (by decide +kernel) (by decide +kernel) w h).1
set_option maxRecDepth 20000 in
theorem wsL_law_x3 : ∀ w ∈ tx_atN.filter goodWord, w ∈ lw_tbl := fun w h => (goodIn_r _ [51, 305, 314, 319, 322, 324, 306, 307, 67, 68, 308, 313, 320, 340, 295, 341, 297, 342, 299, 309, 311, 301, 336, 337, 339, 301, 657, 658, 659, 330, 330, 331, 332, 333, 333, 334, 335, 336, 656, 647, 649, 318, 650, 651, 652, 653, 304, 303, 654] (by decide +kernel) (by decide +kernel) w h).1
theorem wsL_law2_in : ∀ w ∈ wsL_law2, w ∈ lw_tbl := fun w h => (List.mem_append.mp h).elim (fun h => (List.mem_append.mp h).elim (fun h => (List.mem_append.mp h).elim (fun h => (List.mem_append.mp h).elim (fun h => wsL_law_in0 w h) (fun h => wsL_law_x0 w h)) (fun h => wsL_law_x1 w h)) (fun h => wsL_law_x2 w h)) (fun h => wsL_law_x3 w h)
theorem inlX0 : ∀ w ∈ wsX00, w ∈ wsL_law2 := fun _ h => List.mem_append_left _ (List.mem_append_left _ (List.mem_append_left _ (List.mem_append_left _ (List.mem_append_left _ (List.mem_append_left _ (List.mem_append_left _ (List.mem_append_left _ (List.mem_append_left _ (List.mem_append_left _ (List.mem_append_left _ (List.mem_append_right _ h)))))))))))
theorem inlX1 : ∀ w ∈ wsX10, w ∈ wsL_law2 := fun _ h => List.mem_append_left _ (List.mem_append_left _ (List.mem_append_left _ (List.mem_append_left _ (List.mem_append_left _ (List.mem_append_left _ (List.mem_append_right _ h))))))
theorem inlX3 : ∀ w ∈ wsX30, w ∈ wsL_law2 := fun _ h => List.mem_append_left _ (List.mem_append_left _ (List.mem_append_left _ (List.mem_append_left _ (List.mem_append_left _ (List.mem_append_left _ (List.mem_append_left _ (List.mem_append_left _ (List.mem_append_right _ h))))))))
theorem inlX4 : ∀ w ∈ wsX40, w ∈ wsL_law2 := fun _ h => List.mem_append_left _ (List.mem_append_left _ (List.mem_append_left _ (List.mem_append_left _ (List.mem_append_left _ (List.mem_append_left _ (List.mem_append_left _ (List.mem_append_left _ (List.mem_append_left _ (List.mem_append_right _ h)))))))))
theorem inlX5 : ∀ w ∈ wsX50, w ∈ wsL_law2 := fun _ h => List.mem_append_left _ (List.mem_append_left _ (List.mem_append_left _ (List.mem_append_left _ (List.mem_append_left _ (List.mem_append_right _ h)))))
theorem inlX6 : ∀ w ∈ wsX60, w ∈ wsL_law2 := fun _ h => List.mem_append_left _ (List.mem_append_left _ (List.mem_append_left _ (List.mem_append_left _ (List.mem_append_left _ (List.mem_append_left _ (List.mem_append_left _ (List.mem_append_right _ h)))))))
theorem inlX7 : ∀ w ∈ wsX70, w ∈ wsL_law2 := fun _ h => List.mem_append_left _ (List.mem_append_left _ (List.mem_append_left _ (List.mem_append_left _ (List.mem_append_left _ (List.mem_append_left _ (List.mem_append_left _ (List.mem_append_left _ (List.mem_append_left _ (List.mem_append_left _ (List.mem_append_right _ h))))))))))
theorem inlX8 : ∀ w ∈ wsX80, w ∈ wsL_law2 := fun _ h => List.mem_append_left _ (List.mem_append_left _ (List.mem_append_left _ (List.mem_append_left _ (List.mem_append_left _ (List.mem_append_left _ (List.mem_append_left _ (List.mem_append_left _ (List.mem_append_left _ (List.mem_append_left _ (List.mem_append_left _ (List.mem_append_left _ (List.mem_append_left _ (List.mem_append_right _ h)))))))))))))
theorem inlX9 : ∀ w ∈ wsX90, w ∈ wsL_law2 := fun _ h => List.mem_append_left _ (List.mem_append_left _ (List.mem_append_left _ (List.mem_append_left _ (List.mem_append_left _ (List.mem_append_left _ (List.mem_append_left _ (List.mem_append_left _ (List.mem_append_left _ (List.mem_append_left _ (List.mem_append_left _ (List.mem_append_left _ (List.mem_append_right _ h))))))))))))
