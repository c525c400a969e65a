theorem dX7_init_8 : decode cX7_init 8 = .ok (.newarray .int, 2) := by decide +kernel
theorem dX7_init_10 : decode cX7_init 10 = .ok (.putfield 11, 3) := by decide +kernel
theorem dX7_init_13 : decode cX7_init 13 = .ok (.return_, 1) := by decide +kernel
theorem dX7_fits_0 : decode cX7_fits 0 = .ok (.iload_n 0, 1) := by decide +kernel
theorem dX7_fits_1 : decode cX7_fits 1 = .ok (.ifCond .lt 24, 3) := by decide +kernel
theorem dX7_fits_4 : decode cX7_fits 4 = .ok (.iload_n 0, 1) := by decide +kernel
theorem dX7_fits_5 : decode cX7_fits 5 = .ok (.bipush 8, 2) := by decide +kernel
theorem dX7_fits_7 : decode cX7_fits 7 = .ok (.if_icmp .ge 18, 3) := by decide +kernel
theorem dX7_fits_10 : decode cX7_fits 10 = .ok (.iload_n 1, 1) := by decide +kernel
theorem dX7_fits_11 : decode cX7_fits 11 = .ok (.ifCond .lt 14, 3) := by decide +kernel
theorem dX7_fits_14 : decode cX7_fits 14 = .ok (.iload_n 1, 1) := by decide +kernel
theorem dX7_fits_15 : decode cX7_fits 15 = .ok (.sipush 128, 3) := by decide +kernel
theorem dX7_fits_18 : decode cX7_fits 18 = .ok (.if_icmp .ge 7, 3) := by decide +kernel
theorem dX7_fits_21 : decode cX7_fits 21 = .ok (.iconst 1, 1) := by decide +kernel
theorem dX7_fits_22 : decode cX7_fits 22 = .ok (.goto 4, 3) := by decide +kernel
theorem dX7_fits_25 : decode cX7_fits 25 = .ok (.iconst 0, 1) := by decide +kernel
theorem dX7_fits_26 : decode cX7_fits 26 = .ok (.ireturn, 1) := by decide +kernel
set_option maxRecDepth 20000 in
theorem ggX7_change_X7_fits : GoodIn wsX7_change wsX7_fits := goodIn_r _ [5] (by decide +kernel) (by decide +kernel)
set_option maxRecDepth 20000 in
theorem gX7_change_X7_fits : GoodIn wsX7_change (va_wsS RX7 15 yX7_fits wsX7_fits) := goodIn_app (goodIn_of _ (by decide +kernel)) ggX7_change_X7_fits
theorem dX7_change_0 : decode cX7_change 0 = .ok (.iload_n 1, 1) := by decide +kernel
theorem dX7_change_1 : decode cX7_change 1 = .ok (.iload_n 2, 1) := by decide +kernel
theorem dX7_change_2 : decode cX7_change 2 = .ok (.invokestatic 15, 3) := by decide +kernel
theorem dX7_change_5 : decode cX7_change 5 = .ok (.ifCond .eq 17, 3) := by decide +kernel
theorem dX7_change_8 : decode cX7_change 8 = .ok (.iload_n 3, 1) := by decide +kernel
theorem dX7_change_9 : decode cX7_change 9 = .ok (.sipush (-30000), 3) := by decide +kernel
theorem dX7_change_12 : decode cX7_change 12 = .ok (.if_icmp .lt 10, 3) := by decide +kernel
theorem dX7_change_15 : decode cX7_change 15 = .ok (.iload_n 3, 1) := by decide +kernel
theorem dX7_change_16 : decode cX7_change 16 = .ok (.sipush 30000, 3) := by decide +kernel
theorem dX7_change_19 : decode cX7_change 19 = .ok (.if_icmp .le 5, 3) := by decide +kernel
theorem dX7_change_22 : decode cX7_change 22 = .ok (.iconst 0, 1) := by decide +kernel
theorem dX7_change_23 : decode cX7_change 23 = .ok (.ireturn, 1) := by decide +kernel
theorem dX7_change_24 : decode cX7_change 24 = .ok (.aload_n 0, 1) := by decide +kernel
theorem dX7_change_25 : decode cX7_change 25 = .ok (.getfield 11, 3) := by decide +kernel
theorem dX7_change_28 : decode cX7_change 28 = .ok (.iload_n 1, 1) := by decide +kernel
theorem dX7_change_29 : decode cX7_change 29 = .ok (.sipush 128, 3) := by decide +kernel
theorem dX7_change_32 : decode cX7_change 32 = .ok (.imul, 1) := by decide +kernel
theorem dX7_change_33 : decode cX7_change 33 = .ok (.iload_n 2, 1) := by decide +kernel
theorem dX7_change_34 : decode cX7_change 34 = .ok (.iadd, 1) := by decide +kernel
theorem dX7_change_35 : decode cX7_change 35 = .ok (.iload_n 3, 1) := by decide +kernel
theorem dX7_change_36 : decode cX7_change 36 = .ok (.iastore, 1) := by decide +kernel
theorem dX7_change_37 : decode cX7_change 37 = .ok (.iconst 1, 1) := by decide +kernel
theorem dX7_change_38 : decode cX7_change 38 = .ok (.ireturn, 1) := by decide +kernel
set_option maxRecDepth 20000 in
theorem ggX7_of_X7_fits : GoodIn wsX7_of wsX7_fits := goodIn_r _ [5] (by decide +kernel) (by decide +kernel)
set_option maxRecDepth 20000 in
theorem gX7_of_X7_fits : GoodIn wsX7_of (va_wsS RX7 15 yX7_fits wsX7_fits) := goodIn_app (goodIn_of _ (by decide +kernel)) ggX7_of_X7_fits
theorem dX7_of_0 : decode cX7_of 0 = .ok (.iload_n 1, 1) := by decide +kernel
theorem dX7_of_1 : decode cX7_of 1 = .ok (.iload_n 2, 1) := by decide +kernel
theorem dX7_of_2 : decode cX7_of 2 = .ok (.invokestatic 15, 3) := by decide +kernel
theorem dX7_of_5 : decode cX7_of 5 = .ok (.ifCond .eq 18, 3) := by decide +kernel
theorem dX7_of_8 : decode cX7_of 8 = .ok (.aload_n 0, 1) := by decide +kernel
theorem dX7_of_9 : decode cX7_of 9 = .ok (.getfield 11, 3) := by decide +kernel
theorem dX7_of_12 : decode cX7_of 12 = .ok (.iload_n 1, 1) := by decide +kernel
theorem dX7_of_13 : decode cX7_of 13 = .ok (.sipush 128, 3) := by decide +kernel
theorem dX7_of_16 : decode cX7_of 16 = .ok (.imul, 1) := by decide +kernel
theorem dX7_of_17 : decode cX7_of 17 = .ok (.iload_n 2, 1) := by decide +kernel
theorem dX7_of_18 : decode cX7_of 18 = .ok (.iadd, 1) := by decide +kernel
theorem dX7_of_19 : decode cX7_of 19 = .ok (.iaload, 1) := by decide +kernel
theorem dX7_of_20 : decode cX7_of 20 = .ok (.goto 4, 3) := by decide +kernel
theorem dX7_of_23 : decode cX7_of 23 = .ok (.iconst 0, 1) := by decide +kernel
theorem dX7_of_24 : decode cX7_of 24 = .ok (.ireturn, 1) := by decide +kernel
set_option maxRecDepth 20000 in
theorem ggX8_init_X0_init : GoodIn wsX8_init wsX0_init := goodIn_r _ [27, 28, 2, 3, 29, 30, 31, 91, 92] (by decide +kernel) (by decide +kernel)
set_option maxRecDepth 20000 in
theorem gX8_init_X0_init : GoodIn wsX8_init (wsX0_init) := ggX8_init_X0_init
set_option maxRecDepth 20000 in
theorem ggX8_init_X7_init : GoodIn wsX8_init wsX7_init := goodIn_r _ [34, 35, 2, 3, 29, 36, 99] (by decide +kernel) (by decide +kernel)
set_option maxRecDepth 20000 in
theorem gX8_init_X7_init : GoodIn wsX8_init (wsX7_init) := ggX8_init_X7_init
set_option maxRecDepth 20000 in
theorem ggX8_init_X4_init : GoodIn wsX8_init wsX4_init := goodIn_r _ [39, 40, 2, 3, 41, 100] (by decide +kernel) (by decide +kernel)
set_option maxRecDepth 20000 in
theorem gX8_init_X4_init : GoodIn wsX8_init (wsX4_init) := ggX8_init_X4_init
set_option maxRecDepth 20000 in
theorem ggX8_init_X3_init : GoodIn wsX8_init wsX3_init := goodIn_r _ [44, 45, 2, 3, 29, 46, 47, 48, 49, 50, 51, 52, 101, 102, 103, 104, 105, 106, 107] (by decide +kernel) (by decide +kernel)
set_option maxRecDepth 20000 in
theorem gX8_init_X3_init : GoodIn wsX8_init (wsX3_init) := ggX8_init_X3_init
set_option maxRecDepth 20000 in
theorem ggX8_init_X6_init : GoodIn wsX8_init wsX6_init := goodIn_r _ [55, 56, 2, 3, 57, 58, 59, 60, 61, 62, 63, 64, 65, 66, 67, 68, 69, 70, 71, 72, 73, 74, 75, 76, 29, 77, 78, 79, 80, 81, 82, 83, 84, 85, 86, 87, 88, 89, 90, 108, 109, 110, 111, 112, 113, 114, 115, 116, 117, 118, 119, 120, 121, 122, 123, 124, 125, 126] (by decide +kernel) (by decide +kernel)
set_option maxRecDepth 20000 in
theorem gX8_init_X6_init : GoodIn wsX8_init (wsX6_init) := ggX8_init_X6_init
theorem dX8_init_0 : decode cX8_init 0 = .ok (.aload_n 0, 1) := by decide +kernel
theorem dX8_init_1 : decode cX8_init 1 = .ok (.invokespecial 1, 3) := by decide +kernel
theorem dX8_init_4 : decode cX8_init 4 = .ok (.aload_n 0, 1) := by decide +kernel
theorem dX8_init_5 : decode cX8_init 5 = .ok (.new 7, 3) := by decide +kernel
theorem dX8_init_8 : decode cX8_init 8 = .ok (.dup, 1) := by decide +kernel
theorem dX8_init_9 : decode cX8_init 9 = .ok (.invokespecial 9, 3) := by decide +kernel
theorem dX8_init_12 : decode cX8_init 12 = .ok (.putfield 10, 3) := by decide +kernel
theorem dX8_init_15 : decode cX8_init 15 = .ok (.aload_n 0, 1) := by decide +kernel
theorem dX8_init_16 : decode cX8_init 16 = .ok (.new 16, 3) := by decide +kernel
theorem dX8_init_19 : decode cX8_init 19 = .ok (.dup, 1) := by decide +kernel
theorem dX8_init_20 : decode cX8_init 20 = .ok (.invokespecial 18, 3) := by decide +kernel
theorem dX8_init_23 : decode cX8_init 23 = .ok (.putfield 19, 3) := by decide +kernel
theorem dX8_init_26 : decode cX8_init 26 = .ok (.aload_n 0, 1) := by decide +kernel
theorem dX8_init_27 : decode cX8_init 27 = .ok (.new 23, 3) := by decide +kernel
theorem dX8_init_30 : decode cX8_init 30 = .ok (.dup, 1) := by decide +kernel
theorem dX8_init_31 : decode cX8_init 31 = .ok (.invokespecial 25, 3) := by decide +kernel
theorem dX8_init_34 : decode cX8_init 34 = .ok (.putfield 26, 3) := by decide +kernel
theorem dX8_init_37 : decode cX8_init 37 = .ok (.aload_n 0, 1) := by decide +kernel
theorem dX8_init_38 : decode cX8_init 38 = .ok (.new 30, 3) := by decide +kernel
theorem dX8_init_41 : decode cX8_init 41 = .ok (.dup, 1) := by decide +kernel
theorem dX8_init_42 : decode cX8_init 42 = .ok (.invokespecial 32, 3) := by decide +kernel
theorem dX8_init_45 : decode cX8_init 45 = .ok (.putfield 33, 3) := by decide +kernel
theorem dX8_init_48 : decode cX8_init 48 = .ok (.aload_n 0, 1) := by decide +kernel
theorem dX8_init_49 : decode cX8_init 49 = .ok (.new 37, 3) := by decide +kernel
theorem dX8_init_52 : decode cX8_init 52 = .ok (.dup, 1) := by decide +kernel
theorem dX8_init_53 : decode cX8_init 53 = .ok (.aload_n 0, 1) := by decide +kernel
theorem dX8_init_54 : decode cX8_init 54 = .ok (.getfield 10, 3) := by decide +kernel
theorem dX8_init_57 : decode cX8_init 57 = .ok (.aload_n 0, 1) := by decide +kernel
theorem dX8_init_58 : decode cX8_init 58 = .ok (.getfield 19, 3) := by decide +kernel
theorem dX8_init_61 : decode cX8_init 61 = .ok (.aload_n 0, 1) := by decide +kernel
theorem dX8_init_62 : decode cX8_init 62 = .ok (.getfield 26, 3) := by decide +kernel
theorem dX8_init_65 : decode cX8_init 65 = .ok (.aload_n 0, 1) := by decide +kernel
theorem dX8_init_66 : decode cX8_init 66 = .ok (.getfield 33, 3) := by decide +kernel
theorem dX8_init_69 : decode cX8_init 69 = .ok (.invokespecial 39, 3) := by decide +kernel
theorem dX8_init_72 : decode cX8_init 72 = .ok (.putfield 42, 3) := by decide +kernel
theorem dX8_init_75 : decode cX8_init 75 = .ok (.aload_n 0, 1) := by decide +kernel
theorem dX8_init_76 : decode cX8_init 76 = .ok (.iconst (-1), 1) := by decide +kernel
theorem dX8_init_77 : decode cX8_init 77 = .ok (.putfield 46, 3) := by decide +kernel
theorem dX8_init_80 : decode cX8_init 80 = .ok (.return_, 1) := by decide +kernel
set_option maxRecDepth 20000 in
theorem ggX8_add_X0_append : GoodIn wsX8_add wsX0_append := goodIn_r _ [10, 11, 12, 23, 24] (by decide +kernel) (by decide +kernel)
set_option maxRecDepth 20000 in
theorem gX8_add_X0_append : GoodIn wsX8_add (wsV RX8 57 RX0 yX0_append wsX0_append) := goodIn_app (goodIn_of _ (by decide +kernel)) ggX8_add_X0_append
set_option maxRecDepth 20000 in
theorem ggX8_add_X0_count : GoodIn wsX8_add wsX0_count := goodIn_r _ [16, 11, 23, 24] (by decide +kernel) (by decide +kernel)
set_option maxRecDepth 20000 in
theorem gX8_add_X0_count : GoodIn wsX8_add (wsV RX8 66 RX0 yX0_count wsX0_count) := goodIn_app (goodIn_of _ (by decide +kernel)) ggX8_add_X0_count
theorem dX8_add_0 : decode cX8_add 0 = .ok (.iload_n 3, 1) := by decide +kernel
theorem dX8_add_1 : decode cX8_add 1 = .ok (.iconst 1, 1) := by decide +kernel
theorem dX8_add_2 : decode cX8_add 2 = .ok (.if_icmp .lt 9, 3) := by decide +kernel
theorem dX8_add_5 : decode cX8_add 5 = .ok (.iload_n 3, 1) := by decide +kernel
theorem dX8_add_6 : decode cX8_add 6 = .ok (.bipush 8, 2) := by decide +kernel
theorem dX8_add_8 : decode cX8_add 8 = .ok (.if_icmp .le 13, 3) := by decide +kernel
theorem dX8_add_11 : decode cX8_add 11 = .ok (.new 50, 3) := by decide +kernel
theorem dX8_add_14 : decode cX8_add 14 = .ok (.dup, 1) := by decide +kernel
theorem dX8_add_15 : decode cX8_add 15 = .ok (.ldc 52, 2) := by decide +kernel
theorem dX8_add_17 : decode cX8_add 17 = .ok (.invokespecial 54, 3) := by decide +kernel
theorem dX8_add_20 : decode cX8_add 20 = .ok (.athrow, 1) := by decide +kernel
theorem dX8_add_21 : decode cX8_add 21 = .ok (.aload_n 0, 1) := by decide +kernel
theorem dX8_add_22 : decode cX8_add 22 = .ok (.getfield 10, 3) := by decide +kernel
theorem dX8_add_25 : decode cX8_add 25 = .ok (.lload_n 1, 1) := by decide +kernel
theorem dX8_add_26 : decode cX8_add 26 = .ok (.iload_n 3, 1) := by decide +kernel
theorem dX8_add_27 : decode cX8_add 27 = .ok (.invokevirtual 57, 3) := by decide +kernel
theorem dX8_add_30 : decode cX8_add 30 = .ok (.ifCond .ne 13, 3) := by decide +kernel
theorem dX8_add_33 : decode cX8_add 33 = .ok (.new 61, 3) := by decide +kernel
theorem dX8_add_36 : decode cX8_add 36 = .ok (.dup, 1) := by decide +kernel
theorem dX8_add_37 : decode cX8_add 37 = .ok (.ldc 63, 2) := by decide +kernel
theorem dX8_add_39 : decode cX8_add 39 = .ok (.invokespecial 65, 3) := by decide +kernel
theorem dX8_add_42 : decode cX8_add 42 = .ok (.athrow, 1) := by decide +kernel
theorem dX8_add_43 : decode cX8_add 43 = .ok (.aload_n 0, 1) := by decide +kernel
theorem dX8_add_44 : decode cX8_add 44 = .ok (.getfield 10, 3) := by decide +kernel
theorem dX8_add_47 : decode cX8_add 47 = .ok (.invokevirtual 66, 3) := by decide +kernel
theorem dX8_add_50 : decode cX8_add 50 = .ok (.ireturn, 1) := by decide +kernel
set_option maxRecDepth 20000 in
theorem ggX8_cut_X0_drop : GoodIn wsX8_cut wsX0_drop := goodIn_r _ [8, 9, 20, 21] (by decide +kernel) (by decide +kernel)
set_option maxRecDepth 20000 in
theorem gX8_cut_X0_drop : GoodIn wsX8_cut (wsV RX8 70 RX0 yX0_drop wsX0_drop) := goodIn_app (goodIn_of _ (by decide +kernel)) ggX8_cut_X0_drop
set_option maxRecDepth 20000 in
theorem ggX8_cut_X0_count : GoodIn wsX8_cut wsX0_count := goodIn_r _ [13, 9, 20, 21] (by decide +kernel) (by decide +kernel)
set_option maxRecDepth 20000 in
theorem gX8_cut_X0_count : GoodIn wsX8_cut (wsV RX8 66 RX0 yX0_count wsX0_count) := goodIn_app (goodIn_of _ (by decide +kernel)) ggX8_cut_X0_count
theorem dX8_cut_0 : decode cX8_cut 0 = .ok (.aload_n 0, 1) := by decide +kernel
theorem dX8_cut_1 : decode cX8_cut 1 = .ok (.getfield 10, 3) := by decide +kernel
theorem dX8_cut_4 : decode cX8_cut 4 = .ok (.iload_n 1, 1) := by decide +kernel
theorem dX8_cut_5 : decode cX8_cut 5 = .ok (.invokevirtual 70, 3) := by decide +kernel
theorem dX8_cut_8 : decode cX8_cut 8 = .ok (.ifCond .ne 13, 3) := by decide +kernel
theorem dX8_cut_11 : decode cX8_cut 11 = .ok (.new 50, 3) := by decide +kernel
theorem dX8_cut_14 : decode cX8_cut 14 = .ok (.dup, 1) := by decide +kernel
theorem dX8_cut_15 : decode cX8_cut 15 = .ok (.ldc 74, 2) := by decide +kernel
theorem dX8_cut_17 : decode cX8_cut 17 = .ok (.invokespecial 54, 3) := by decide +kernel
theorem dX8_cut_20 : decode cX8_cut 20 = .ok (.athrow, 1) := by decide +kernel
theorem dX8_cut_21 : decode cX8_cut 21 = .ok (.aload_n 0, 1) := by decide +kernel
theorem dX8_cut_22 : decode cX8_cut 22 = .ok (.getfield 10, 3) := by decide +kernel
theorem dX8_cut_25 : decode cX8_cut 25 = .ok (.invokevirtual 66, 3) := by decide +kernel
theorem dX8_cut_28 : decode cX8_cut 28 = .ok (.ireturn, 1) := by decide +kernel
set_option maxRecDepth 20000 in
theorem ggX8_width_X7_change : GoodIn wsX8_width wsX7_change := goodIn_r _ [6, 7, 8, 9, 5, 10, 17] (by decide +kernel) (by decide +kernel)
set_option maxRecDepth 20000 in
theorem gX8_width_X7_change : GoodIn wsX8_width (wsV RX8 76 RX7 yX7_change wsX7_change) := goodIn_app (goodIn_of _ (by decide +kernel)) ggX8_width_X7_change
theorem dX8_width_0 : decode cX8_width 0 = .ok (.aload_n 0, 1) := by decide +kernel
theorem dX8_width_1 : decode cX8_width 1 = .ok (.getfield 19, 3) := by decide +kernel
theorem dX8_width_4 : decode cX8_width 4 = .ok (.iload_n 1, 1) := by decide +kernel
theorem dX8_width_5 : decode cX8_width 5 = .ok (.iload_n 2, 1) := by decide +kernel
theorem dX8_width_6 : decode cX8_width 6 = .ok (.iload_n 3, 1) := by decide +kernel
theorem dX8_width_7 : decode cX8_width 7 = .ok (.invokevirtual 76, 3) := by decide +kernel
theorem dX8_width_10 : decode cX8_width 10 = .ok (.ireturn, 1) := by decide +kernel
set_option maxRecDepth 20000 in
theorem ggX8_read_X6_firstWrong : GoodIn wsX8_read wsX6_firstWrong := goodIn_r _ [11, 12, 13, 14, 15, 16, 10, 17, 18, 19, 20, 21, 22, 23, 24, 25, 26, 27, 28, 29, 30, 31, 32, 33, 34, 35, 36, 37, 38, 39, 40, 41, 42, 43, 44, 45, 46, 47, 48, 49, 50, 51, 52, 53, 54, 55, 56, 57, 58, 59, 60, 61, 62, 63, 64, 65, 66, 67, 68, 69, 70, 71, 72, 73, 74, 75, 76, 77, 78, 79, 80, 81, 82, 83, 84, 85, 86, 87, 88, 89, 90, 91, 92, 93, 94, 95, 96, 97, 98, 99, 100, 101, 102, 103, 104, 105, 106, 107, 108, 109, 110, 111, 112, 113, 114, 115, 116, 117, 118, 119, 120, 121, 122, 123, 124, 125, 126, 127, 128, 129, 130, 131, 132, 133, 134, 135, 136, 137, 138, 139, 140, 141, 142, 143, 144, 145, 146, 147, 148, 149, 150, 151, 152, 153, 154, 155, 156, 157, 158, 159, 160, 161, 162, 163, 164, 165, 166, 167, 168, 169, 170, 171, 172, 173, 174, 175, 176, 177, 178, 179, 180, 181, 182, 183, 184, 185, 186, 187, 188, 189, 190, 191, 192, 193, 194, 195, 196, 197, 198, 199, 200, 201, 202, 203, 204, 205, 206, 207, 208, 209, 210, 211, 212, 213, 214, 215, 216, 217, 218, 219, 220, 221, 222, 223, 224, 225, 226, 227, 228, 229, 230, 231, 232, 233, 234, 235, 236, 237, 238, 239, 240, 241, 242, 243, 244, 245, 246, 247, 248, 249, 250, 251, 252, 253, 254, 255, 256, 257, 258, 259, 260, 261, 262, 263, 264, 265, 266, 267, 268, 269, 270, 271, 272, 273, 283, 284, 285, 286, 287, 288, 289, 290, 291, 292, 293, 294, 295, 296, 297, 298, 299, 300, 301, 302, 303, 304, 305, 306, 307, 308, 309, 310, 311, 312] (by decide +kernel) (by decide +kernel)
set_option maxRecDepth 20000 in
theorem gX8_read_X6_firstWrong : GoodIn wsX8_read (wsV RX8 80 RX6 yX6_firstWrong wsX6_firstWrong) := goodIn_app (goodIn_of _ (by decide +kernel)) ggX8_read_X6_firstWrong
set_option maxRecDepth 20000 in
theorem ggX8_read_X3_clear : GoodIn wsX8_read wsX3_clear := goodIn_r _ [35, 36, 37, 293, 294, 295, 296, 297, 298, 299] (by decide +kernel) (by decide +kernel)
set_option maxRecDepth 20000 in
theorem gX8_read_X3_clear : GoodIn wsX8_read (wsV RX8 83 RX3 yX3_clear wsX3_clear) := goodIn_app (goodIn_of _ (by decide +kernel)) ggX8_read_X3_clear
set_option maxRecDepth 20000 in
theorem ggX8_read_X4_clear : GoodIn wsX8_read wsX4_clear := goodIn_r _ [29, 30, 292] (by decide +kernel) (by decide +kernel)
set_option maxRecDepth 20000 in
theorem gX8_read_X4_clear : GoodIn wsX8_read (wsV RX8 86 RX4 yX4_clear wsX4_clear) := goodIn_app (goodIn_of _ (by decide +kernel)) ggX8_read_X4_clear
set_option maxRecDepth 20000 in
theorem ggX8_read_X3_count : GoodIn wsX8_read wsX3_count := goodIn_r _ [273, 36, 293, 294, 295, 296, 297, 298, 299] (by decide +kernel) (by decide +kernel)
set_option maxRecDepth 20000 in
theorem gX8_read_X3_count : GoodIn wsX8_read (wsV RX8 92 RX3 yX3_count wsX3_count) := goodIn_app (goodIn_of _ (by decide +kernel)) ggX8_read_X3_count
theorem dX8_read_0 : decode cX8_read 0 = .ok (.aload_n 0, 1) := by decide +kernel
theorem dX8_read_1 : decode cX8_read 1 = .ok (.aload_n 0, 1) := by decide +kernel
theorem dX8_read_2 : decode cX8_read 2 = .ok (.getfield 42, 3) := by decide +kernel
theorem dX8_read_5 : decode cX8_read 5 = .ok (.invokevirtual 80, 3) := by decide +kernel
theorem dX8_read_8 : decode cX8_read 8 = .ok (.putfield 46, 3) := by decide +kernel
theorem dX8_read_11 : decode cX8_read 11 = .ok (.aload_n 0, 1) := by decide +kernel
theorem dX8_read_12 : decode cX8_read 12 = .ok (.getfield 46, 3) := by decide +kernel
theorem dX8_read_15 : decode cX8_read 15 = .ok (.iconst (-1), 1) := by decide +kernel
theorem dX8_read_16 : decode cX8_read 16 = .ok (.if_icmp .eq 27, 3) := by decide +kernel
theorem dX8_read_19 : decode cX8_read 19 = .ok (.aload_n 0, 1) := by decide +kernel
theorem dX8_read_20 : decode cX8_read 20 = .ok (.getfield 33, 3) := by decide +kernel
theorem dX8_read_23 : decode cX8_read 23 = .ok (.invokevirtual 83, 3) := by decide +kernel
theorem dX8_read_26 : decode cX8_read 26 = .ok (.aload_n 0, 1) := by decide +kernel
theorem dX8_read_27 : decode cX8_read 27 = .ok (.getfield 26, 3) := by decide +kernel
theorem dX8_read_30 : decode cX8_read 30 = .ok (.invokevirtual 86, 3) := by decide +kernel
theorem dX8_read_33 : decode cX8_read 33 = .ok (.new 87, 3) := by decide +kernel
theorem dX8_read_36 : decode cX8_read 36 = .ok (.dup, 1) := by decide +kernel
theorem dX8_read_37 : decode cX8_read 37 = .ok (.ldc 89, 2) := by decide +kernel
theorem dX8_read_39 : decode cX8_read 39 = .ok (.invokespecial 91, 3) := by decide +kernel
theorem dX8_read_42 : decode cX8_read 42 = .ok (.athrow, 1) := by decide +kernel
theorem dX8_read_43 : decode cX8_read 43 = .ok (.aload_n 0, 1) := by decide +kernel
theorem dX8_read_44 : decode cX8_read 44 = .ok (.getfield 33, 3) := by decide +kernel
theorem dX8_read_47 : decode cX8_read 47 = .ok (.invokevirtual 92, 3) := by decide +kernel
theorem dX8_read_50 : decode cX8_read 50 = .ok (.ireturn, 1) := by decide +kernel
theorem dX8_wrong_0 : decode cX8_wrong 0 = .ok (.aload_n 0, 1) := by decide +kernel
theorem dX8_wrong_1 : decode cX8_wrong 1 = .ok (.getfield 46, 3) := by decide +kernel
theorem dX8_wrong_4 : decode cX8_wrong 4 = .ok (.ireturn, 1) := by decide +kernel
set_option maxRecDepth 20000 in
theorem ggX8_page_X3_has : GoodIn wsX8_page wsX3_has := goodIn_r _ [8, 9, 32, 33, 34, 35, 36, 37, 38] (by decide +kernel) (by decide +kernel)
set_option maxRecDepth 20000 in
theorem gX8_page_X3_has : GoodIn wsX8_page (wsV RX8 93 RX3 yX3_has wsX3_has) := goodIn_app (goodIn_of _ (by decide +kernel)) ggX8_page_X3_has
set_option maxRecDepth 20000 in
theorem ggX8_page_X3_numberOf : GoodIn wsX8_page wsX3_numberOf := goodIn_r _ [13, 14, 15, 5, 6, 7, 8, 9, 32, 33, 34, 35, 36, 37, 38] (by decide +kernel) (by decide +kernel)
set_option maxRecDepth 20000 in
theorem gX8_page_X3_numberOf : GoodIn wsX8_page (wsV RX8 101 RX3 yX3_numberOf wsX3_numberOf) := goodIn_app (goodIn_of _ (by decide +kernel)) ggX8_page_X3_numberOf
set_option maxRecDepth 20000 in
theorem ggX8_page_X3_itemsOf : GoodIn wsX8_page wsX3_itemsOf := goodIn_r _ [19, 20, 15, 5, 6, 7, 8, 9, 32, 33, 34, 35, 36, 37, 38] (by decide +kernel) (by decide +kernel)
set_option maxRecDepth 20000 in
theorem gX8_page_X3_itemsOf : GoodIn wsX8_page (wsV RX8 105 RX3 yX3_itemsOf wsX3_itemsOf) := goodIn_app (goodIn_of _ (by decide +kernel)) ggX8_page_X3_itemsOf
set_option maxRecDepth 20000 in
theorem ggX8_page_X3_addressOf : GoodIn wsX8_page wsX3_addressOf := goodIn_r _ [24, 25, 15, 5, 6, 7, 8, 9, 32, 33, 34, 35, 36, 37, 38] (by decide +kernel) (by decide +kernel)
set_option maxRecDepth 20000 in
theorem gX8_page_X3_addressOf : GoodIn wsX8_page (wsV RX8 108 RX3 yX3_addressOf wsX3_addressOf) := goodIn_app (goodIn_of _ (by decide +kernel)) ggX8_page_X3_addressOf
theorem dX8_page_0 : decode cX8_page 0 = .ok (.aload_n 0, 1) := by decide +kernel
theorem dX8_page_1 : decode cX8_page 1 = .ok (.getfield 33, 3) := by decide +kernel
theorem dX8_page_4 : decode cX8_page 4 = .ok (.iload_n 1, 1) := by decide +kernel
theorem dX8_page_5 : decode cX8_page 5 = .ok (.invokevirtual 93, 3) := by decide +kernel
theorem dX8_page_8 : decode cX8_page 8 = .ok (.ifCond .eq 12, 3) := by decide +kernel
theorem dX8_page_11 : decode cX8_page 11 = .ok (.iload_n 2, 1) := by decide +kernel
theorem dX8_page_12 : decode cX8_page 12 = .ok (.ifCond .lt 8, 3) := by decide +kernel
theorem dX8_page_15 : decode cX8_page 15 = .ok (.iload_n 2, 1) := by decide +kernel
theorem dX8_page_16 : decode cX8_page 16 = .ok (.iconst 2, 1) := by decide +kernel
theorem dX8_page_17 : decode cX8_page 17 = .ok (.if_icmp .le 13, 3) := by decide +kernel
theorem dX8_page_20 : decode cX8_page 20 = .ok (.new 96, 3) := by decide +kernel
theorem dX8_page_23 : decode cX8_page 23 = .ok (.dup, 1) := by decide +kernel
theorem dX8_page_24 : decode cX8_page 24 = .ok (.ldc 98, 2) := by decide +kernel
theorem dX8_page_26 : decode cX8_page 26 = .ok (.invokespecial 100, 3) := by decide +kernel
theorem dX8_page_29 : decode cX8_page 29 = .ok (.athrow, 1) := by decide +kernel
theorem dX8_page_30 : decode cX8_page 30 = .ok (.iload_n 2, 1) := by decide +kernel
theorem dX8_page_31 : decode cX8_page 31 = .ok (.ifCond .ne 12, 3) := by decide +kernel
theorem dX8_page_34 : decode cX8_page 34 = .ok (.aload_n 0, 1) := by decide +kernel
theorem dX8_page_35 : decode cX8_page 35 = .ok (.getfield 33, 3) := by decide +kernel
theorem dX8_page_38 : decode cX8_page 38 = .ok (.iload_n 1, 1) := by decide +kernel
theorem dX8_page_39 : decode cX8_page 39 = .ok (.invokevirtual 101, 3) := by decide +kernel
theorem dX8_page_42 : decode cX8_page 42 = .ok (.ireturn, 1) := by decide +kernel
theorem dX8_page_43 : decode cX8_page 43 = .ok (.iload_n 2, 1) := by decide +kernel
theorem dX8_page_44 : decode cX8_page 44 = .ok (.iconst 1, 1) := by decide +kernel
theorem dX8_page_45 : decode cX8_page 45 = .ok (.if_icmp .ne 14, 3) := by decide +kernel
theorem dX8_page_48 : decode cX8_page 48 = .ok (.aload_n 0, 1) := by decide +kernel
theorem dX8_page_49 : decode cX8_page 49 = .ok (.getfield 33, 3) := by decide +kernel
theorem dX8_page_52 : decode cX8_page 52 = .ok (.iload_n 1, 1) := by decide +kernel
theorem dX8_page_53 : decode cX8_page 53 = .ok (.invokevirtual 105, 3) := by decide +kernel
theorem dX8_page_56 : decode cX8_page 56 = .ok (.goto 11, 3) := by decide +kernel
theorem dX8_page_59 : decode cX8_page 59 = .ok (.aload_n 0, 1) := by decide +kernel
theorem dX8_page_60 : decode cX8_page 60 = .ok (.getfield 33, 3) := by decide +kernel
theorem dX8_page_63 : decode cX8_page 63 = .ok (.iload_n 1, 1) := by decide +kernel
theorem dX8_page_64 : decode cX8_page 64 = .ok (.invokevirtual 108, 3) := by decide +kernel
theorem dX8_page_67 : decode cX8_page 67 = .ok (.ireturn, 1) := by decide +kernel
set_option maxRecDepth 20000 in
theorem ggX8_item_X3_hasItem : GoodIn wsX8_item wsX3_hasItem := goodIn_r _ [9, 10, 11, 12, 13, 8, 14, 15, 35, 36, 37, 38, 39, 40, 41] (by decide +kernel) (by decide +kernel)
set_option maxRecDepth 20000 in
theorem gX8_item_X3_hasItem : GoodIn wsX8_item (wsV RX8 111 RX3 yX3_hasItem wsX3_hasItem) := goodIn_app (goodIn_of _ (by decide +kernel)) ggX8_item_X3_hasItem
set_option maxRecDepth 20000 in
theorem ggX8_item_X3_partOf : GoodIn wsX8_item wsX3_partOf := goodIn_r _ [19, 20, 21, 22, 6, 7, 8, 9, 10, 11, 12, 13, 14, 15, 35, 36, 37, 38, 39, 40, 41] (by decide +kernel) (by decide +kernel)
set_option maxRecDepth 20000 in
theorem gX8_item_X3_partOf : GoodIn wsX8_item (wsV RX8 117 RX3 yX3_partOf wsX3_partOf) := goodIn_app (goodIn_of _ (by decide +kernel)) ggX8_item_X3_partOf
set_option maxRecDepth 20000 in
theorem ggX8_item_X4_roundedUp : GoodIn wsX8_item wsX4_roundedUp := goodIn_r _ [27, 28, 42] (by decide +kernel) (by decide +kernel)
set_option maxRecDepth 20000 in
theorem gX8_item_X4_roundedUp : GoodIn wsX8_item (wsV RX8 121 RX4 yX4_roundedUp wsX4_roundedUp) := goodIn_app (goodIn_of _ (by decide +kernel)) ggX8_item_X4_roundedUp
theorem dX8_item_0 : decode cX8_item 0 = .ok (.aload_n 0, 1) := by decide +kernel
theorem dX8_item_1 : decode cX8_item 1 = .ok (.getfield 33, 3) := by decide +kernel
theorem dX8_item_4 : decode cX8_item 4 = .ok (.iload_n 1, 1) := by decide +kernel
theorem dX8_item_5 : decode cX8_item 5 = .ok (.iload_n 2, 1) := by decide +kernel
theorem dX8_item_6 : decode cX8_item 6 = .ok (.invokevirtual 111, 3) := by decide +kernel
theorem dX8_item_9 : decode cX8_item 9 = .ok (.ifCond .eq 13, 3) := by decide +kernel
theorem dX8_item_12 : decode cX8_item 12 = .ok (.iload_n 3, 1) := by decide +kernel
theorem dX8_item_13 : decode cX8_item 13 = .ok (.ifCond .lt 9, 3) := by decide +kernel
theorem dX8_item_16 : decode cX8_item 16 = .ok (.iload_n 3, 1) := by decide +kernel
theorem dX8_item_17 : decode cX8_item 17 = .ok (.bipush 8, 2) := by decide +kernel
theorem dX8_item_19 : decode cX8_item 19 = .ok (.if_icmp .le 13, 3) := by decide +kernel
theorem dX8_item_22 : decode cX8_item 22 = .ok (.new 96, 3) := by decide +kernel
theorem dX8_item_25 : decode cX8_item 25 = .ok (.dup, 1) := by decide +kernel
theorem dX8_item_26 : decode cX8_item 26 = .ok (.ldc 115, 2) := by decide +kernel
theorem dX8_item_28 : decode cX8_item 28 = .ok (.invokespecial 100, 3) := by decide +kernel
theorem dX8_item_31 : decode cX8_item 31 = .ok (.athrow, 1) := by decide +kernel
theorem dX8_item_32 : decode cX8_item 32 = .ok (.iload_n 3, 1) := by decide +kernel
theorem dX8_item_33 : decode cX8_item 33 = .ok (.bipush 7, 2) := by decide +kernel
theorem dX8_item_35 : decode cX8_item 35 = .ok (.if_icmp .ge 14, 3) := by decide +kernel
theorem dX8_item_38 : decode cX8_item 38 = .ok (.aload_n 0, 1) := by decide +kernel
theorem dX8_item_39 : decode cX8_item 39 = .ok (.getfield 33, 3) := by decide +kernel
theorem dX8_item_42 : decode cX8_item 42 = .ok (.iload_n 1, 1) := by decide +kernel
theorem dX8_item_43 : decode cX8_item 43 = .ok (.iload_n 2, 1) := by decide +kernel
theorem dX8_item_44 : decode cX8_item 44 = .ok (.iload_n 3, 1) := by decide +kernel
theorem dX8_item_45 : decode cX8_item 45 = .ok (.invokevirtual 117, 3) := by decide +kernel
theorem dX8_item_48 : decode cX8_item 48 = .ok (.ireturn, 1) := by decide +kernel
theorem dX8_item_49 : decode cX8_item 49 = .ok (.aload_n 0, 1) := by decide +kernel
theorem dX8_item_50 : decode cX8_item 50 = .ok (.getfield 33, 3) := by decide +kernel
theorem dX8_item_53 : decode cX8_item 53 = .ok (.iload_n 1, 1) := by decide +kernel
theorem dX8_item_54 : decode cX8_item 54 = .ok (.iload_n 2, 1) := by decide +kernel
theorem dX8_item_55 : decode cX8_item 55 = .ok (.iconst 0, 1) := by decide +kernel
theorem dX8_item_56 : decode cX8_item 56 = .ok (.invokevirtual 117, 3) := by decide +kernel
theorem dX8_item_59 : decode cX8_item 59 = .ok (.sipush 128, 3) := by decide +kernel
theorem dX8_item_62 : decode cX8_item 62 = .ok (.if_icmp .eq 5, 3) := by decide +kernel
theorem dX8_item_65 : decode cX8_item 65 = .ok (.iconst 0, 1) := by decide +kernel
theorem dX8_item_66 : decode cX8_item 66 = .ok (.ireturn, 1) := by decide +kernel
theorem dX8_item_67 : decode cX8_item 67 = .ok (.aload_n 0, 1) := by decide +kernel
theorem dX8_item_68 : decode cX8_item 68 = .ok (.getfield 26, 3) := by decide +kernel
theorem dX8_item_71 : decode cX8_item 71 = .ok (.aload_n 0, 1) := by decide +kernel
theorem dX8_item_72 : decode cX8_item 72 = .ok (.getfield 33, 3) := by decide +kernel
theorem dX8_item_75 : decode cX8_item 75 = .ok (.iload_n 1, 1) := by decide +kernel
theorem dX8_item_76 : decode cX8_item 76 = .ok (.iload_n 2, 1) := by decide +kernel
theorem dX8_item_77 : decode cX8_item 77 = .ok (.iload_n 3, 1) := by decide +kernel
theorem dX8_item_78 : decode cX8_item 78 = .ok (.bipush 7, 2) := by decide +kernel
theorem dX8_item_80 : decode cX8_item 80 = .ok (.if_icmp .ne 8, 3) := by decide +kernel
theorem dX8_item_83 : decode cX8_item 83 = .ok (.bipush 6, 2) := by decide +kernel
theorem dX8_item_85 : decode cX8_item 85 = .ok (.goto 4, 3) := by decide +kernel
theorem dX8_item_88 : decode cX8_item 88 = .ok (.iconst 1, 1) := by decide +kernel
theorem dX8_item_89 : decode cX8_item 89 = .ok (.invokevirtual 117, 3) := by decide +kernel
theorem dX8_item_92 : decode cX8_item 92 = .ok (.invokevirtual 121, 3) := by decide +kernel
theorem dX8_item_95 : decode cX8_item 95 = .ok (.ireturn, 1) := by decide +kernel
set_option maxRecDepth 20000 in
theorem ggX8_conv_X4_factor : GoodIn wsX8_conv wsX4_factor := goodIn_r _ [6, 7, 14] (by decide +kernel) (by decide +kernel)
set_option maxRecDepth 20000 in
theorem gX8_conv_X4_factor : GoodIn wsX8_conv (wsV RX8 124 RX4 yX4_factor wsX4_factor) := goodIn_app (goodIn_of _ (by decide +kernel)) ggX8_conv_X4_factor
theorem dX8_conv_0 : decode cX8_conv 0 = .ok (.aload_n 0, 1) := by decide +kernel
theorem dX8_conv_1 : decode cX8_conv 1 = .ok (.getfield 26, 3) := by decide +kernel
theorem dX8_conv_4 : decode cX8_conv 4 = .ok (.invokevirtual 124, 3) := by decide +kernel
theorem dX8_conv_7 : decode cX8_conv 7 = .ok (.dreturn, 1) := by decide +kernel
set_option maxRecDepth 20000 in
theorem ggX8_most_X3_greatest : GoodIn wsX8_most wsX3_greatest := goodIn_r _ [6, 7, 8, 9, 5, 10, 11, 12, 13, 14, 15, 16, 17, 18, 19, 30, 31, 32, 33, 34, 35, 36] (by decide +kernel) (by decide +kernel)
set_option maxRecDepth 20000 in
theorem gX8_most_X3_greatest : GoodIn wsX8_most (wsV RX8 128 RX3 yX3_greatest wsX3_greatest) := goodIn_app (goodIn_of _ (by decide +kernel)) ggX8_most_X3_greatest
set_option maxRecDepth 20000 in
theorem ggX8_most_X3_least : GoodIn wsX8_most wsX3_least := goodIn_r _ [23, 7, 8, 9, 5, 10, 11, 12, 13, 14, 15, 16, 17, 18, 19, 30, 31, 32, 33, 34, 35, 36] (by decide +kernel) (by decide +kernel)
set_option maxRecDepth 20000 in
theorem gX8_most_X3_least : GoodIn wsX8_most (wsV RX8 131 RX3 yX3_least wsX3_least) := goodIn_app (goodIn_of _ (by decide +kernel)) ggX8_most_X3_least
theorem dX8_most_0 : decode cX8_most 0 = .ok (.iload_n 1, 1) := by decide +kernel
theorem dX8_most_1 : decode cX8_most 1 = .ok (.tableswitch 67 0 3 #[31, 40, 49, 58], 31) := by decide +kernel
theorem dX8_most_32 : decode cX8_most 32 = .ok (.aload_n 0, 1) := by decide +kernel
theorem dX8_most_33 : decode cX8_most 33 = .ok (.getfield 33, 3) := by decide +kernel
theorem dX8_most_36 : decode cX8_most 36 = .ok (.iconst 2, 1) := by decide +kernel
theorem dX8_most_37 : decode cX8_most 37 = .ok (.invokevirtual 128, 3) := by decide +kernel
theorem dX8_most_40 : decode cX8_most 40 = .ok (.ireturn, 1) := by decide +kernel
theorem dX8_most_41 : decode cX8_most 41 = .ok (.aload_n 0, 1) := by decide +kernel
theorem dX8_most_42 : decode cX8_most 42 = .ok (.getfield 33, 3) := by decide +kernel
theorem dX8_most_45 : decode cX8_most 45 = .ok (.iconst 3, 1) := by decide +kernel
theorem dX8_most_46 : decode cX8_most 46 = .ok (.invokevirtual 128, 3) := by decide +kernel
theorem dX8_most_49 : decode cX8_most 49 = .ok (.ireturn, 1) := by decide +kernel
theorem dX8_most_50 : decode cX8_most 50 = .ok (.aload_n 0, 1) := by decide +kernel
theorem dX8_most_51 : decode cX8_most 51 = .ok (.getfield 33, 3) := by decide +kernel
theorem dX8_most_54 : decode cX8_most 54 = .ok (.iconst 2, 1) := by decide +kernel
theorem dX8_most_55 : decode cX8_most 55 = .ok (.invokevirtual 131, 3) := by decide +kernel
theorem dX8_most_58 : decode cX8_most 58 = .ok (.ireturn, 1) := by decide +kernel
theorem dX8_most_59 : decode cX8_most 59 = .ok (.aload_n 0, 1) := by decide +kernel
theorem dX8_most_60 : decode cX8_most 60 = .ok (.getfield 33, 3) := by decide +kernel
theorem dX8_most_63 : decode cX8_most 63 = .ok (.iconst 3, 1) := by decide +kernel
theorem dX8_most_64 : decode cX8_most 64 = .ok (.invokevirtual 131, 3) := by decide +kernel
theorem dX8_most_67 : decode cX8_most 67 = .ok (.ireturn, 1) := by decide +kernel
theorem dX8_most_68 : decode cX8_most 68 = .ok (.iconst 0, 1) := by decide +kernel
theorem dX8_most_69 : decode cX8_most 69 = .ok (.ireturn, 1) := by decide +kernel
theorem dX9_init_0 : decode cX9_init 0 = .ok (.aload_n 0, 1) := by decide +kernel
theorem dX9_init_1 : decode cX9_init 1 = .ok (.invokespecial 1, 3) := by decide +kernel
theorem dX9_init_4 : decode cX9_init 4 = .ok (.aload_n 0, 1) := by decide +kernel
theorem dX9_init_5 : decode cX9_init 5 = .ok (.sipush 600, 3) := by decide +kernel
theorem dX9_init_8 : decode cX9_init 8 = .ok (.newarray .int, 2) := by decide +kernel
theorem dX9_init_10 : decode cX9_init 10 = .ok (.putfield 7, 3) := by decide +kernel
theorem dX9_init_13 : decode cX9_init 13 = .ok (.aload_n 0, 1) := by decide +kernel
theorem dX9_init_14 : decode cX9_init 14 = .ok (.sipush 1024, 3) := by decide +kernel
theorem dX9_init_17 : decode cX9_init 17 = .ok (.newarray .int, 2) := by decide +kernel
theorem dX9_init_19 : decode cX9_init 19 = .ok (.putfield 13, 3) := by decide +kernel
theorem dX9_init_22 : decode cX9_init 22 = .ok (.aload_n 0, 1) := by decide +kernel
theorem dX9_init_23 : decode cX9_init 23 = .ok (.bipush 8, 2) := by decide +kernel
theorem dX9_init_25 : decode cX9_init 25 = .ok (.newarray .boolean, 2) := by decide +kernel
theorem dX9_init_27 : decode cX9_init 27 = .ok (.putfield 16, 3) := by decide +kernel
theorem dX9_init_30 : decode cX9_init 30 = .ok (.aload_n 0, 1) := by decide +kernel
theorem dX9_init_31 : decode cX9_init 31 = .ok (.bipush 8, 2) := by decide +kernel
theorem dX9_init_33 : decode cX9_init 33 = .ok (.newarray .boolean, 2) := by decide +kernel
theorem dX9_init_35 : decode cX9_init 35 = .ok (.putfield 20, 3) := by decide +kernel
theorem dX9_init_38 : decode cX9_init 38 = .ok (.aload_n 0, 1) := by decide +kernel
theorem dX9_init_39 : decode cX9_init 39 = .ok (.bipush 8, 2) := by decide +kernel
theorem dX9_init_41 : decode cX9_init 41 = .ok (.newarray .int, 2) := by decide +kernel
theorem dX9_init_43 : decode cX9_init 43 = .ok (.putfield 23, 3) := by decide +kernel
theorem dX9_init_46 : decode cX9_init 46 = .ok (.aload_n 0, 1) := by decide +kernel
theorem dX9_init_47 : decode cX9_init 47 = .ok (.bipush 8, 2) := by decide +kernel
theorem dX9_init_49 : decode cX9_init 49 = .ok (.newarray .int, 2) := by decide +kernel
theorem dX9_init_51 : decode cX9_init 51 = .ok (.putfield 26, 3) := by decide +kernel
theorem dX9_init_54 : decode cX9_init 54 = .ok (.aload_n 0, 1) := by decide +kernel
theorem dX9_init_55 : decode cX9_init 55 = .ok (.iconst (-1), 1) := by decide +kernel
theorem dX9_init_56 : decode cX9_init 56 = .ok (.putfield 29, 3) := by decide +kernel
theorem dX9_init_59 : decode cX9_init 59 = .ok (.aload_n 0, 1) := by decide +kernel
theorem dX9_init_60 : decode cX9_init 60 = .ok (.bipush 12, 2) := by decide +kernel
theorem dX9_init_62 : decode cX9_init 62 = .ok (.newarray .int, 2) := by decide +kernel
theorem dX9_init_64 : decode cX9_init 64 = .ok (.putfield 33, 3) := by decide +kernel
theorem dX9_init_67 : decode cX9_init 67 = .ok (.aload_n 0, 1) := by decide +kernel
theorem dX9_init_68 : decode cX9_init 68 = .ok (.bipush 12, 2) := by decide +kernel
theorem dX9_init_70 : decode cX9_init 70 = .ok (.newarray .int, 2) := by decide +kernel
theorem dX9_init_72 : decode cX9_init 72 = .ok (.putfield 36, 3) := by decide +kernel
theorem dX9_init_75 : decode cX9_init 75 = .ok (.aload_n 0, 1) := by decide +kernel
theorem dX9_init_76 : decode cX9_init 76 = .ok (.bipush 12, 2) := by decide +kernel
theorem dX9_init_78 : decode cX9_init 78 = .ok (.newarray .int, 2) := by decide +kernel
theorem dX9_init_80 : decode cX9_init 80 = .ok (.putfield 39, 3) := by decide +kernel
theorem dX9_init_83 : decode cX9_init 83 = .ok (.aload_n 0, 1) := by decide +kernel
theorem dX9_init_84 : decode cX9_init 84 = .ok (.bipush 12, 2) := by decide +kernel
theorem dX9_init_86 : decode cX9_init 86 = .ok (.newarray .int, 2) := by decide +kernel
theorem dX9_init_88 : decode cX9_init 88 = .ok (.putfield 42, 3) := by decide +kernel
theorem dX9_init_91 : decode cX9_init 91 = .ok (.aload_n 0, 1) := by decide +kernel
theorem dX9_init_92 : decode cX9_init 92 = .ok (.sipush 1800, 3) := by decide +kernel
theorem dX9_init_95 : decode cX9_init 95 = .ok (.newarray .int, 2) := by decide +kernel
theorem dX9_init_97 : decode cX9_init 97 = .ok (.putfield 45, 3) := by decide +kernel
theorem dX9_init_100 : decode cX9_init 100 = .ok (.aload_n 0, 1) := by decide +kernel
theorem dX9_init_101 : decode cX9_init 101 = .ok (.bipush 8, 2) := by decide +kernel
theorem dX9_init_103 : decode cX9_init 103 = .ok (.newarray .int, 2) := by decide +kernel
theorem dX9_init_105 : decode cX9_init 105 = .ok (.putfield 48, 3) := by decide +kernel
theorem dX9_init_108 : decode cX9_init 108 = .ok (.aload_n 0, 1) := by decide +kernel
theorem dX9_init_109 : decode cX9_init 109 = .ok (.sipush 160, 3) := by decide +kernel
theorem dX9_init_112 : decode cX9_init 112 = .ok (.newarray .int, 2) := by decide +kernel
theorem dX9_init_114 : decode cX9_init 114 = .ok (.putfield 51, 3) := by decide +kernel
theorem dX9_init_117 : decode cX9_init 117 = .ok (.return_, 1) := by decide +kernel
theorem dX9_refuse_0 : decode cX9_refuse 0 = .ok (.aload_n 0, 1) := by decide +kernel
theorem dX9_refuse_1 : decode cX9_refuse 1 = .ok (.iload_n 1, 1) := by decide +kernel
theorem dX9_refuse_2 : decode cX9_refuse 2 = .ok (.putfield 54, 3) := by decide +kernel
theorem dX9_refuse_5 : decode cX9_refuse 5 = .ok (.iconst 0, 1) := by decide +kernel
theorem dX9_refuse_6 : decode cX9_refuse 6 = .ok (.ireturn, 1) := by decide +kernel
set_option maxRecDepth 20000 in
theorem ggX9_add_X9_refuse : GoodIn wsX9_add wsX9_refuse := goodIn_r _ [9, 1, 10, 11, 12, 13, 14, 15, 16, 17, 18, 19, 20, 21, 22, 23, 24, 25, 26, 27, 28, 29, 30, 31, 32, 33, 34, 35, 36, 37, 38, 39] (by decide +kernel) (by decide +kernel)
set_option maxRecDepth 20000 in
theorem gX9_add_X9_refuse : GoodIn wsX9_add (wsV RX9 57 RX9 yX9_refuse wsX9_refuse) := goodIn_app (goodIn_of _ (by decide +kernel)) ggX9_add_X9_refuse
theorem dX9_add_0 : decode cX9_add 0 = .ok (.aload_n 0, 1) := by decide +kernel
theorem dX9_add_1 : decode cX9_add 1 = .ok (.iconst 0, 1) := by decide +kernel
theorem dX9_add_2 : decode cX9_add 2 = .ok (.putfield 54, 3) := by decide +kernel
theorem dX9_add_5 : decode cX9_add 5 = .ok (.iload_n 3, 1) := by decide +kernel
theorem dX9_add_6 : decode cX9_add 6 = .ok (.iconst 1, 1) := by decide +kernel
theorem dX9_add_7 : decode cX9_add 7 = .ok (.if_icmp .lt 9, 3) := by decide +kernel
theorem dX9_add_10 : decode cX9_add 10 = .ok (.iload_n 3, 1) := by decide +kernel
theorem dX9_add_11 : decode cX9_add 11 = .ok (.bipush 8, 2) := by decide +kernel
theorem dX9_add_13 : decode cX9_add 13 = .ok (.if_icmp .le 9, 3) := by decide +kernel
theorem dX9_add_16 : decode cX9_add 16 = .ok (.aload_n 0, 1) := by decide +kernel
theorem dX9_add_17 : decode cX9_add 17 = .ok (.iconst 1, 1) := by decide +kernel
theorem dX9_add_18 : decode cX9_add 18 = .ok (.invokevirtual 57, 3) := by decide +kernel
theorem dX9_add_21 : decode cX9_add 21 = .ok (.ireturn, 1) := by decide +kernel
theorem dX9_add_22 : decode cX9_add 22 = .ok (.aload_n 0, 1) := by decide +kernel
theorem dX9_add_23 : decode cX9_add 23 = .ok (.getfield 61, 3) := by decide +kernel
theorem dX9_add_26 : decode cX9_add 26 = .ok (.iload_n 3, 1) := by decide +kernel
theorem dX9_add_27 : decode cX9_add 27 = .ok (.iadd, 1) := by decide +kernel
theorem dX9_add_28 : decode cX9_add 28 = .ok (.sipush 600, 3) := by decide +kernel
theorem dX9_add_31 : decode cX9_add 31 = .ok (.if_icmp .le 9, 3) := by decide +kernel
theorem dX9_add_34 : decode cX9_add 34 = .ok (.aload_n 0, 1) := by decide +kernel
theorem dX9_add_35 : decode cX9_add 35 = .ok (.iconst 2, 1) := by decide +kernel
theorem dX9_add_36 : decode cX9_add 36 = .ok (.invokevirtual 57, 3) := by decide +kernel
theorem dX9_add_39 : decode cX9_add 39 = .ok (.ireturn, 1) := by decide +kernel
theorem dX9_add_40 : decode cX9_add 40 = .ok (.iconst 0, 1) := by decide +kernel
theorem dX9_add_41 : decode cX9_add 41 = .ok (.istore 4, 2) := by decide +kernel
theorem dX9_add_43 : decode cX9_add 43 = .ok (.iload 4, 2) := by decide +kernel
theorem dX9_add_45 : decode cX9_add 45 = .ok (.iload_n 3, 1) := by decide +kernel
theorem dX9_add_46 : decode cX9_add 46 = .ok (.if_icmp .ge 40, 3) := by decide +kernel
theorem dX9_add_49 : decode cX9_add 49 = .ok (.aload_n 0, 1) := by decide +kernel
theorem dX9_add_50 : decode cX9_add 50 = .ok (.getfield 7, 3) := by decide +kernel
theorem dX9_add_53 : decode cX9_add 53 = .ok (.aload_n 0, 1) := by decide +kernel
theorem dX9_add_54 : decode cX9_add 54 = .ok (.getfield 61, 3) := by decide +kernel
theorem dX9_add_57 : decode cX9_add 57 = .ok (.lload_n 1, 1) := by decide +kernel
theorem dX9_add_58 : decode cX9_add 58 = .ok (.bipush 8, 2) := by decide +kernel
theorem dX9_add_60 : decode cX9_add 60 = .ok (.iload 4, 2) := by decide +kernel
theorem dX9_add_62 : decode cX9_add 62 = .ok (.imul, 1) := by decide +kernel
theorem dX9_add_63 : decode cX9_add 63 = .ok (.lshr, 1) := by decide +kernel
theorem dX9_add_64 : decode cX9_add 64 = .ok (.ldc2_w 64, 3) := by decide +kernel
theorem dX9_add_67 : decode cX9_add 67 = .ok (.land, 1) := by decide +kernel
theorem dX9_add_68 : decode cX9_add 68 = .ok (.l2i, 1) := by decide +kernel
theorem dX9_add_69 : decode cX9_add 69 = .ok (.iastore, 1) := by decide +kernel
theorem dX9_add_70 : decode cX9_add 70 = .ok (.aload_n 0, 1) := by decide +kernel
theorem dX9_add_71 : decode cX9_add 71 = .ok (.dup, 1) := by decide +kernel
theorem dX9_add_72 : decode cX9_add 72 = .ok (.getfield 61, 3) := by decide +kernel
theorem dX9_add_75 : decode cX9_add 75 = .ok (.iconst 1, 1) := by decide +kernel
theorem dX9_add_76 : decode cX9_add 76 = .ok (.iadd, 1) := by decide +kernel
theorem dX9_add_77 : decode cX9_add 77 = .ok (.putfield 61, 3) := by decide +kernel
theorem dX9_add_80 : decode cX9_add 80 = .ok (.iinc 4 1, 3) := by decide +kernel
theorem dX9_add_83 : decode cX9_add 83 = .ok (.goto (-40), 3) := by decide +kernel
theorem dX9_add_86 : decode cX9_add 86 = .ok (.aload_n 0, 1) := by decide +kernel
theorem dX9_add_87 : decode cX9_add 87 = .ok (.getfield 61, 3) := by decide +kernel
theorem dX9_add_90 : decode cX9_add 90 = .ok (.ireturn, 1) := by decide +kernel
set_option maxRecDepth 20000 in
theorem ggX9_cut_X9_refuse : GoodIn wsX9_cut wsX9_refuse := goodIn_r _ [7, 1, 8, 9, 10, 11, 12, 13, 14, 15, 16, 17, 18, 19, 20, 21, 22, 23, 24, 25, 26, 27, 28, 29, 30, 31, 32, 33, 34, 35, 36, 37] (by decide +kernel) (by decide +kernel)
set_option maxRecDepth 20000 in
theorem gX9_cut_X9_refuse : GoodIn wsX9_cut (wsV RX9 57 RX9 yX9_refuse wsX9_refuse) := goodIn_app (goodIn_of _ (by decide +kernel)) ggX9_cut_X9_refuse
theorem dX9_cut_0 : decode cX9_cut 0 = .ok (.aload_n 0, 1) := by decide +kernel
theorem dX9_cut_1 : decode cX9_cut 1 = .ok (.iconst 0, 1) := by decide +kernel
theorem dX9_cut_2 : decode cX9_cut 2 = .ok (.putfield 54, 3) := by decide +kernel
theorem dX9_cut_5 : decode cX9_cut 5 = .ok (.iload_n 1, 1) := by decide +kernel
theorem dX9_cut_6 : decode cX9_cut 6 = .ok (.ifCond .lt 11, 3) := by decide +kernel
theorem dX9_cut_9 : decode cX9_cut 9 = .ok (.iload_n 1, 1) := by decide +kernel
theorem dX9_cut_10 : decode cX9_cut 10 = .ok (.aload_n 0, 1) := by decide +kernel
theorem dX9_cut_11 : decode cX9_cut 11 = .ok (.getfield 61, 3) := by decide +kernel
theorem dX9_cut_14 : decode cX9_cut 14 = .ok (.if_icmp .le 9, 3) := by decide +kernel
theorem dX9_cut_17 : decode cX9_cut 17 = .ok (.aload_n 0, 1) := by decide +kernel
theorem dX9_cut_18 : decode cX9_cut 18 = .ok (.iconst 1, 1) := by decide +kernel
theorem dX9_cut_19 : decode cX9_cut 19 = .ok (.invokevirtual 57, 3) := by decide +kernel
theorem dX9_cut_22 : decode cX9_cut 22 = .ok (.ireturn, 1) := by decide +kernel
theorem dX9_cut_23 : decode cX9_cut 23 = .ok (.aload_n 0, 1) := by decide +kernel
theorem dX9_cut_24 : decode cX9_cut 24 = .ok (.dup, 1) := by decide +kernel
theorem dX9_cut_25 : decode cX9_cut 25 = .ok (.getfield 61, 3) := by decide +kernel
theorem dX9_cut_28 : decode cX9_cut 28 = .ok (.iload_n 1, 1) := by decide +kernel
theorem dX9_cut_29 : decode cX9_cut 29 = .ok (.isub, 1) := by decide +kernel
theorem dX9_cut_30 : decode cX9_cut 30 = .ok (.putfield 61, 3) := by decide +kernel
theorem dX9_cut_33 : decode cX9_cut 33 = .ok (.aload_n 0, 1) := by decide +kernel
theorem dX9_cut_34 : decode cX9_cut 34 = .ok (.getfield 61, 3) := by decide +kernel
theorem dX9_cut_37 : decode cX9_cut 37 = .ok (.ireturn, 1) := by decide +kernel
theorem dX9_width_0 : decode cX9_width 0 = .ok (.aload_n 0, 1) := by decide +kernel
theorem dX9_width_1 : decode cX9_width 1 = .ok (.iconst 0, 1) := by decide +kernel
theorem dX9_width_2 : decode cX9_width 2 = .ok (.putfield 54, 3) := by decide +kernel
theorem dX9_width_5 : decode cX9_width 5 = .ok (.iload_n 1, 1) := by decide +kernel
theorem dX9_width_6 : decode cX9_width 6 = .ok (.ifCond .lt 33, 3) := by decide +kernel
theorem dX9_width_9 : decode cX9_width 9 = .ok (.iload_n 1, 1) := by decide +kernel
theorem dX9_width_10 : decode cX9_width 10 = .ok (.bipush 7, 2) := by decide +kernel
theorem dX9_width_12 : decode cX9_width 12 = .ok (.if_icmp .gt 27, 3) := by decide +kernel
theorem dX9_width_15 : decode cX9_width 15 = .ok (.iload_n 2, 1) := by decide +kernel
theorem dX9_width_16 : decode cX9_width 16 = .ok (.ifCond .lt 23, 3) := by decide +kernel
theorem dX9_width_19 : decode cX9_width 19 = .ok (.iload_n 2, 1) := by decide +kernel
theorem dX9_width_20 : decode cX9_width 20 = .ok (.bipush 127, 2) := by decide +kernel
theorem dX9_width_22 : decode cX9_width 22 = .ok (.if_icmp .gt 17, 3) := by decide +kernel
theorem dX9_width_25 : decode cX9_width 25 = .ok (.iload_n 3, 1) := by decide +kernel
theorem dX9_width_26 : decode cX9_width 26 = .ok (.sipush (-30000), 3) := by decide +kernel
theorem dX9_width_29 : decode cX9_width 29 = .ok (.if_icmp .lt 10, 3) := by decide +kernel
theorem dX9_width_32 : decode cX9_width 32 = .ok (.iload_n 3, 1) := by decide +kernel
theorem dX9_width_33 : decode cX9_width 33 = .ok (.sipush 30000, 3) := by decide +kernel
theorem dX9_width_36 : decode cX9_width 36 = .ok (.if_icmp .le 5, 3) := by decide +kernel
theorem dX9_width_39 : decode cX9_width 39 = .ok (.iconst 0, 1) := by decide +kernel
theorem dX9_width_40 : decode cX9_width 40 = .ok (.ireturn, 1) := by decide +kernel
theorem dX9_width_41 : decode cX9_width 41 = .ok (.aload_n 0, 1) := by decide +kernel
theorem dX9_width_42 : decode cX9_width 42 = .ok (.getfield 13, 3) := by decide +kernel
theorem dX9_width_45 : decode cX9_width 45 = .ok (.sipush 128, 3) := by decide +kernel
theorem dX9_width_48 : decode cX9_width 48 = .ok (.iload_n 1, 1) := by decide +kernel
theorem dX9_width_49 : decode cX9_width 49 = .ok (.imul, 1) := by decide +kernel
theorem dX9_width_50 : decode cX9_width 50 = .ok (.iload_n 2, 1) := by decide +kernel
theorem dX9_width_51 : decode cX9_width 51 = .ok (.iadd, 1) := by decide +kernel
theorem dX9_width_52 : decode cX9_width 52 = .ok (.iload_n 3, 1) := by decide +kernel
theorem dX9_width_53 : decode cX9_width 53 = .ok (.iastore, 1) := by decide +kernel
theorem dX9_width_54 : decode cX9_width 54 = .ok (.iconst 1, 1) := by decide +kernel
theorem dX9_width_55 : decode cX9_width 55 = .ok (.ireturn, 1) := by decide +kernel
theorem dX9_numberAt_0 : decode cX9_numberAt 0 = .ok (.iconst 0, 1) := by decide +kernel
theorem dX9_numberAt_1 : decode cX9_numberAt 1 = .ok (.istore_n 3, 1) := by decide +kernel
theorem dX9_numberAt_2 : decode cX9_numberAt 2 = .ok (.iload_n 1, 1) := by decide +kernel
theorem dX9_numberAt_3 : decode cX9_numberAt 3 = .ok (.istore 4, 2) := by decide +kernel
theorem dX9_numberAt_5 : decode cX9_numberAt 5 = .ok (.iload 4, 2) := by decide +kernel
theorem dX9_numberAt_7 : decode cX9_numberAt 7 = .ok (.iload_n 1, 1) := by decide +kernel
theorem dX9_numberAt_8 : decode cX9_numberAt 8 = .ok (.iload_n 2, 1) := by decide +kernel
theorem dX9_numberAt_9 : decode cX9_numberAt 9 = .ok (.iadd, 1) := by decide +kernel
theorem dX9_numberAt_10 : decode cX9_numberAt 10 = .ok (.if_icmp .ge 23, 3) := by decide +kernel
theorem dX9_numberAt_13 : decode cX9_numberAt 13 = .ok (.iload_n 3, 1) := by decide +kernel
theorem dX9_numberAt_14 : decode cX9_numberAt 14 = .ok (.sipush 256, 3) := by decide +kernel
theorem dX9_numberAt_17 : decode cX9_numberAt 17 = .ok (.imul, 1) := by decide +kernel
theorem dX9_numberAt_18 : decode cX9_numberAt 18 = .ok (.aload_n 0, 1) := by decide +kernel
theorem dX9_numberAt_19 : decode cX9_numberAt 19 = .ok (.getfield 7, 3) := by decide +kernel
theorem dX9_numberAt_22 : decode cX9_numberAt 22 = .ok (.iload 4, 2) := by decide +kernel
theorem dX9_numberAt_24 : decode cX9_numberAt 24 = .ok (.iaload, 1) := by decide +kernel
theorem dX9_numberAt_25 : decode cX9_numberAt 25 = .ok (.iadd, 1) := by decide +kernel
theorem dX9_numberAt_26 : decode cX9_numberAt 26 = .ok (.istore_n 3, 1) := by decide +kernel
theorem dX9_numberAt_27 : decode cX9_numberAt 27 = .ok (.iinc 4 1, 3) := by decide +kernel
theorem dX9_numberAt_30 : decode cX9_numberAt 30 = .ok (.goto (-25), 3) := by decide +kernel
theorem dX9_numberAt_33 : decode cX9_numberAt 33 = .ok (.iload_n 3, 1) := by decide +kernel
theorem dX9_numberAt_34 : decode cX9_numberAt 34 = .ok (.ireturn, 1) := by decide +kernel
set_option maxRecDepth 20000 in
theorem ggX9_signedAt_X9_numberAt : GoodIn wsX9_signedAt wsX9_numberAt := goodIn_r _ [5, 6, 7, 8, 9, 10, 11, 12, 13, 14, 15, 16, 17, 18, 19, 20, 21, 22, 23, 24, 25, 26, 27, 28, 29, 30, 31, 32, 33, 34, 35, 36] (by decide +kernel) (by decide +kernel)
set_option maxRecDepth 20000 in
theorem gX9_signedAt_X9_numberAt : GoodIn wsX9_signedAt (wsV RX9 66 RX9 yX9_numberAt wsX9_numberAt) := goodIn_app (goodIn_of _ (by decide +kernel)) ggX9_signedAt_X9_numberAt
theorem dX9_signedAt_0 : decode cX9_signedAt 0 = .ok (.aload_n 0, 1) := by decide +kernel
theorem dX9_signedAt_1 : decode cX9_signedAt 1 = .ok (.iload_n 1, 1) := by decide +kernel
theorem dX9_signedAt_2 : decode cX9_signedAt 2 = .ok (.iload_n 2, 1) := by decide +kernel
theorem dX9_signedAt_3 : decode cX9_signedAt 3 = .ok (.invokevirtual 66, 3) := by decide +kernel
theorem dX9_signedAt_6 : decode cX9_signedAt 6 = .ok (.istore_n 3, 1) := by decide +kernel
theorem dX9_signedAt_7 : decode cX9_signedAt 7 = .ok (.sipush 128, 3) := by decide +kernel
theorem dX9_signedAt_10 : decode cX9_signedAt 10 = .ok (.istore 4, 2) := by decide +kernel
theorem dX9_signedAt_12 : decode cX9_signedAt 12 = .ok (.iconst 1, 1) := by decide +kernel
theorem dX9_signedAt_13 : decode cX9_signedAt 13 = .ok (.istore 5, 2) := by decide +kernel
theorem dX9_signedAt_15 : decode cX9_signedAt 15 = .ok (.iload 5, 2) := by decide +kernel
theorem dX9_signedAt_17 : decode cX9_signedAt 17 = .ok (.iload_n 2, 1) := by decide +kernel
theorem dX9_signedAt_18 : decode cX9_signedAt 18 = .ok (.if_icmp .ge 17, 3) := by decide +kernel
theorem dX9_signedAt_21 : decode cX9_signedAt 21 = .ok (.iload 4, 2) := by decide +kernel
theorem dX9_signedAt_23 : decode cX9_signedAt 23 = .ok (.sipush 256, 3) := by decide +kernel
theorem dX9_signedAt_26 : decode cX9_signedAt 26 = .ok (.imul, 1) := by decide +kernel
theorem dX9_signedAt_27 : decode cX9_signedAt 27 = .ok (.istore 4, 2) := by decide +kernel
theorem dX9_signedAt_29 : decode cX9_signedAt 29 = .ok (.iinc 5 1, 3) := by decide +kernel
theorem dX9_signedAt_32 : decode cX9_signedAt 32 = .ok (.goto (-17), 3) := by decide +kernel
theorem dX9_signedAt_35 : decode cX9_signedAt 35 = .ok (.iload_n 3, 1) := by decide +kernel
theorem dX9_signedAt_36 : decode cX9_signedAt 36 = .ok (.iload 4, 2) := by decide +kernel
theorem dX9_signedAt_38 : decode cX9_signedAt 38 = .ok (.if_icmp .ge 7, 3) := by decide +kernel
theorem dX9_signedAt_41 : decode cX9_signedAt 41 = .ok (.iload_n 3, 1) := by decide +kernel
theorem dX9_signedAt_42 : decode cX9_signedAt 42 = .ok (.goto 9, 3) := by decide +kernel
theorem dX9_signedAt_45 : decode cX9_signedAt 45 = .ok (.iload_n 3, 1) := by decide +kernel
theorem dX9_signedAt_46 : decode cX9_signedAt 46 = .ok (.iconst 2, 1) := by decide +kernel
theorem dX9_signedAt_47 : decode cX9_signedAt 47 = .ok (.iload 4, 2) := by decide +kernel
theorem dX9_signedAt_49 : decode cX9_signedAt 49 = .ok (.imul, 1) := by decide +kernel
theorem dX9_signedAt_50 : decode cX9_signedAt 50 = .ok (.isub, 1) := by decide +kernel
theorem dX9_signedAt_51 : decode cX9_signedAt 51 = .ok (.ireturn, 1) := by decide +kernel
set_option maxRecDepth 20000 in
theorem ggX9_behind_X9_movesBehind : GoodIn wsX9_behind wsX9_movesBehind := goodIn_r _ [4] (by decide +kernel) (by decide +kernel)
set_option maxRecDepth 20000 in
theorem gX9_behind_X9_movesBehind : GoodIn wsX9_behind (va_wsS RX9 70 yX9_movesBehind wsX9_movesBehind) := goodIn_app (goodIn_of _ (by decide +kernel)) ggX9_behind_X9_movesBehind
theorem dX9_behind_0 : decode cX9_behind 0 = .ok (.iload_n 0, 1) := by decide +kernel
theorem dX9_behind_1 : decode cX9_behind 1 = .ok (.sipush 128, 3) := by decide +kernel
theorem dX9_behind_4 : decode cX9_behind 4 = .ok (.if_icmp .lt 38, 3) := by decide +kernel
theorem dX9_behind_7 : decode cX9_behind 7 = .ok (.iload_n 0, 1) := by decide +kernel
theorem dX9_behind_8 : decode cX9_behind 8 = .ok (.sipush 131, 3) := by decide +kernel
theorem dX9_behind_11 : decode cX9_behind 11 = .ok (.if_icmp .eq 31, 3) := by decide +kernel
theorem dX9_behind_14 : decode cX9_behind 14 = .ok (.iload_n 0, 1) := by decide +kernel
theorem dX9_behind_15 : decode cX9_behind 15 = .ok (.sipush 133, 3) := by decide +kernel
theorem dX9_behind_18 : decode cX9_behind 18 = .ok (.if_icmp .lt 10, 3) := by decide +kernel
theorem dX9_behind_21 : decode cX9_behind 21 = .ok (.iload_n 0, 1) := by decide +kernel
theorem dX9_behind_22 : decode cX9_behind 22 = .ok (.sipush 135, 3) := by decide +kernel
theorem dX9_behind_25 : decode cX9_behind 25 = .ok (.if_icmp .le 17, 3) := by decide +kernel
theorem dX9_behind_28 : decode cX9_behind 28 = .ok (.iload_n 0, 1) := by decide +kernel
theorem dX9_behind_29 : decode cX9_behind 29 = .ok (.sipush 158, 3) := by decide +kernel
theorem dX9_behind_32 : decode cX9_behind 32 = .ok (.if_icmp .lt 12, 3) := by decide +kernel
theorem dX9_behind_35 : decode cX9_behind 35 = .ok (.iload_n 0, 1) := by decide +kernel
theorem dX9_behind_36 : decode cX9_behind 36 = .ok (.sipush 165, 3) := by decide +kernel
theorem dX9_behind_39 : decode cX9_behind 39 = .ok (.if_icmp .gt 5, 3) := by decide +kernel
theorem dX9_behind_42 : decode cX9_behind 42 = .ok (.iconst 0, 1) := by decide +kernel
theorem dX9_behind_43 : decode cX9_behind 43 = .ok (.ireturn, 1) := by decide +kernel
theorem dX9_behind_44 : decode cX9_behind 44 = .ok (.iload_n 0, 1) := by decide +kernel
theorem dX9_behind_45 : decode cX9_behind 45 = .ok (.sipush 169, 3) := by decide +kernel
theorem dX9_behind_48 : decode cX9_behind 48 = .ok (.if_icmp .le 5, 3) := by decide +kernel
theorem dX9_behind_51 : decode cX9_behind 51 = .ok (.iconst (-1), 1) := by decide +kernel
theorem dX9_behind_52 : decode cX9_behind 52 = .ok (.ireturn, 1) := by decide +kernel
theorem dX9_behind_53 : decode cX9_behind 53 = .ok (.iload_n 0, 1) := by decide +kernel
theorem dX9_behind_54 : decode cX9_behind 54 = .ok (.lookupswitch 92 #[(128, 74), (129, 76), (130, 78), (132, 80), (166, 82), (167, 84), (168, 87), (169, 90)], 74) := by decide +kernel
theorem dX9_behind_128 : decode cX9_behind 128 = .ok (.iconst 1, 1) := by decide +kernel
theorem dX9_behind_129 : decode cX9_behind 129 = .ok (.ireturn, 1) := by decide +kernel
theorem dX9_behind_130 : decode cX9_behind 130 = .ok (.iconst 4, 1) := by decide +kernel
theorem dX9_behind_131 : decode cX9_behind 131 = .ok (.ireturn, 1) := by decide +kernel
theorem dX9_behind_132 : decode cX9_behind 132 = .ok (.iconst 4, 1) := by decide +kernel
theorem dX9_behind_133 : decode cX9_behind 133 = .ok (.ireturn, 1) := by decide +kernel
theorem dX9_behind_134 : decode cX9_behind 134 = .ok (.iconst 4, 1) := by decide +kernel
theorem dX9_behind_135 : decode cX9_behind 135 = .ok (.ireturn, 1) := by decide +kernel
theorem dX9_behind_136 : decode cX9_behind 136 = .ok (.iconst 5, 1) := by decide +kernel
theorem dX9_behind_137 : decode cX9_behind 137 = .ok (.ireturn, 1) := by decide +kernel
theorem dX9_behind_138 : decode cX9_behind 138 = .ok (.bipush 7, 2) := by decide +kernel
theorem dX9_behind_140 : decode cX9_behind 140 = .ok (.ireturn, 1) := by decide +kernel
theorem dX9_behind_141 : decode cX9_behind 141 = .ok (.bipush 11, 2) := by decide +kernel
theorem dX9_behind_143 : decode cX9_behind 143 = .ok (.ireturn, 1) := by decide +kernel
theorem dX9_behind_144 : decode cX9_behind 144 = .ok (.iconst 3, 1) := by decide +kernel
theorem dX9_behind_145 : decode cX9_behind 145 = .ok (.ireturn, 1) := by decide +kernel
theorem dX9_behind_146 : decode cX9_behind 146 = .ok (.iload_n 0, 1) := by decide +kernel
theorem dX9_behind_147 : decode cX9_behind 147 = .ok (.invokestatic 70, 3) := by decide +kernel
theorem dX9_behind_150 : decode cX9_behind 150 = .ok (.ireturn, 1) := by decide +kernel
theorem dX9_movesBehind_0 : decode cX9_movesBehind 0 = .ok (.iload_n 0, 1) := by decide +kernel
theorem dX9_movesBehind_1 : decode cX9_movesBehind 1 = .ok (.sipush 138, 3) := by decide +kernel
theorem dX9_movesBehind_4 : decode cX9_movesBehind 4 = .ok (.if_icmp .gt 9, 3) := by decide +kernel
theorem dX9_movesBehind_7 : decode cX9_movesBehind 7 = .ok (.iload_n 0, 1) := by decide +kernel
theorem dX9_movesBehind_8 : decode cX9_movesBehind 8 = .ok (.sipush 135, 3) := by decide +kernel
theorem dX9_movesBehind_11 : decode cX9_movesBehind 11 = .ok (.isub, 1) := by decide +kernel
theorem dX9_movesBehind_12 : decode cX9_movesBehind 12 = .ok (.ireturn, 1) := by decide +kernel
theorem dX9_movesBehind_13 : decode cX9_movesBehind 13 = .ok (.iload_n 0, 1) := by decide +kernel
theorem dX9_movesBehind_14 : decode cX9_movesBehind 14 = .ok (.sipush 142, 3) := by decide +kernel
theorem dX9_movesBehind_17 : decode cX9_movesBehind 17 = .ok (.if_icmp .gt 9, 3) := by decide +kernel
theorem dX9_movesBehind_20 : decode cX9_movesBehind 20 = .ok (.iload_n 0, 1) := by decide +kernel
theorem dX9_movesBehind_21 : decode cX9_movesBehind 21 = .ok (.sipush 139, 3) := by decide +kernel
theorem dX9_movesBehind_24 : decode cX9_movesBehind 24 = .ok (.isub, 1) := by decide +kernel
theorem dX9_movesBehind_25 : decode cX9_movesBehind 25 = .ok (.ireturn, 1) := by decide +kernel
theorem dX9_movesBehind_26 : decode cX9_movesBehind 26 = .ok (.iload_n 0, 1) := by decide +kernel
theorem dX9_movesBehind_27 : decode cX9_movesBehind 27 = .ok (.sipush 146, 3) := by decide +kernel
theorem dX9_movesBehind_30 : decode cX9_movesBehind 30 = .ok (.if_icmp .gt 9, 3) := by decide +kernel
theorem dX9_movesBehind_33 : decode cX9_movesBehind 33 = .ok (.iload_n 0, 1) := by decide +kernel
theorem dX9_movesBehind_34 : decode cX9_movesBehind 34 = .ok (.sipush 143, 3) := by decide +kernel
theorem dX9_movesBehind_37 : decode cX9_movesBehind 37 = .ok (.isub, 1) := by decide +kernel
theorem dX9_movesBehind_38 : decode cX9_movesBehind 38 = .ok (.ireturn, 1) := by decide +kernel
theorem dX9_movesBehind_39 : decode cX9_movesBehind 39 = .ok (.iload_n 0, 1) := by decide +kernel
theorem dX9_movesBehind_40 : decode cX9_movesBehind 40 = .ok (.sipush 149, 3) := by decide +kernel
theorem dX9_movesBehind_43 : decode cX9_movesBehind 43 = .ok (.if_icmp .gt 9, 3) := by decide +kernel
theorem dX9_movesBehind_46 : decode cX9_movesBehind 46 = .ok (.iload_n 0, 1) := by decide +kernel
theorem dX9_movesBehind_47 : decode cX9_movesBehind 47 = .ok (.sipush 146, 3) := by decide +kernel
theorem dX9_movesBehind_50 : decode cX9_movesBehind 50 = .ok (.isub, 1) := by decide +kernel
theorem dX9_movesBehind_51 : decode cX9_movesBehind 51 = .ok (.ireturn, 1) := by decide +kernel
theorem dX9_movesBehind_52 : decode cX9_movesBehind 52 = .ok (.iload_n 0, 1) := by decide +kernel
theorem dX9_movesBehind_53 : decode cX9_movesBehind 53 = .ok (.sipush 153, 3) := by decide +kernel
theorem dX9_movesBehind_56 : decode cX9_movesBehind 56 = .ok (.if_icmp .gt 11, 3) := by decide +kernel
theorem dX9_movesBehind_59 : decode cX9_movesBehind 59 = .ok (.iload_n 0, 1) := by decide +kernel
