set_option maxRecDepth 20000 in
theorem gX6_obeyInPage_X0_number : GoodIn wsX6_obeyInPage (wsV RX6 102 RX0 yX0_number wsX0_number) := goodIn_app (goodIn_of _ (by decide +kernel)) ggX6_obeyInPage_X0_number
set_option maxRecDepth 20000 in
theorem ggX6_obeyInPage_X6_character : GoodIn wsX6_obeyInPage wsX6_character := goodIn_r _ [19, 2, 20, 21, 22, 23, 24, 25, 26, 27, 28, 29, 30, 31, 32, 33, 34, 35, 36, 37, 38, 39, 40, 41, 42, 43, 44, 45, 46, 47, 48, 49, 50, 51, 52, 53, 54, 55, 56, 57, 58, 59, 60, 61, 62, 63, 64, 65, 66, 67, 68, 69, 70, 71, 72, 171, 172, 173, 174, 175, 176, 177, 178, 179, 182, 183, 184, 185, 186, 187, 188, 189, 190, 191, 192, 193, 194, 195, 196, 197] (by decide +kernel) (by decide +kernel)
set_option maxRecDepth 20000 in
theorem gX6_obeyInPage_X6_character : GoodIn wsX6_obeyInPage (wsV RX6 106 RX6 yX6_character wsX6_character) := goodIn_app (goodIn_of _ (by decide +kernel)) ggX6_obeyInPage_X6_character
set_option maxRecDepth 20000 in
theorem ggX6_obeyInPage_X6_rule : GoodIn wsX6_obeyInPage wsX6_rule := goodIn_r _ [76, 1, 20, 2, 22, 77, 78, 79, 6, 80, 81, 11, 12, 13, 14, 4, 5, 7, 8, 9, 33, 34, 35, 36, 37, 38, 39, 40, 41, 42, 43, 44, 26, 45, 46, 82, 83, 84, 59, 85, 61, 56, 57, 58, 60, 62, 63, 64, 65, 66, 67, 68, 69, 70, 71, 72, 171, 172, 173, 174, 175, 176, 177, 178, 179, 180, 181, 189, 190, 191, 192, 193, 194, 195, 182, 183, 184, 185, 186, 187, 188, 197] (by decide +kernel) (by decide +kernel)
set_option maxRecDepth 20000 in
theorem gX6_obeyInPage_X6_rule : GoodIn wsX6_obeyInPage (wsV RX6 110 RX6 yX6_rule wsX6_rule) := goodIn_app (goodIn_of _ (by decide +kernel)) ggX6_obeyInPage_X6_rule
set_option maxRecDepth 20000 in
theorem ggX6_obeyInPage_X6_end : GoodIn wsX6_obeyInPage wsX6_end := goodIn_r _ [89, 90, 2, 91, 92, 93, 26, 94, 95, 171, 172, 173, 174, 175, 176, 177, 178, 179, 182, 183, 184, 185, 186, 187, 188] (by decide +kernel) (by decide +kernel)
set_option maxRecDepth 20000 in
theorem gX6_obeyInPage_X6_end : GoodIn wsX6_obeyInPage (wsV RX6 113 RX6 yX6_end wsX6_end) := goodIn_app (goodIn_of _ (by decide +kernel)) ggX6_obeyInPage_X6_end
set_option maxRecDepth 20000 in
theorem ggX6_obeyInPage_X5_push : GoodIn wsX6_obeyInPage wsX5_push := goodIn_r _ [99, 95, 46, 100, 101, 102, 103, 104, 105, 106, 107, 108, 109, 182, 183, 184, 185, 186, 187, 188] (by decide +kernel) (by decide +kernel)
set_option maxRecDepth 20000 in
theorem gX6_obeyInPage_X5_push : GoodIn wsX6_obeyInPage (wsV RX6 117 RX5 yX5_push wsX5_push) := goodIn_app (goodIn_of _ (by decide +kernel)) ggX6_obeyInPage_X5_push
set_option maxRecDepth 20000 in
theorem ggX6_obeyInPage_X5_pop : GoodIn wsX6_obeyInPage wsX5_pop := goodIn_r _ [113, 95, 100, 46, 101, 102, 103, 104, 182, 183, 184, 185, 186, 187, 188] (by decide +kernel) (by decide +kernel)
set_option maxRecDepth 20000 in
theorem gX6_obeyInPage_X5_pop : GoodIn wsX6_obeyInPage (wsV RX6 120 RX5 yX5_pop wsX5_pop) := goodIn_app (goodIn_of _ (by decide +kernel)) ggX6_obeyInPage_X5_pop
set_option maxRecDepth 20000 in
theorem ggX6_obeyInPage_X6_define : GoodIn wsX6_obeyInPage wsX6_define := goodIn_r _ [117, 1, 90, 118, 10, 11, 12, 6, 13, 14, 4, 5, 7, 8, 9, 119, 120, 121, 122, 123, 124, 125, 126, 127, 128, 129, 130, 171, 172, 173, 174, 175, 176, 177, 178, 179, 180, 181, 198, 199, 200] (by decide +kernel) (by decide +kernel)
set_option maxRecDepth 20000 in
theorem gX6_obeyInPage_X6_define : GoodIn wsX6_obeyInPage (wsV RX6 90 RX6 yX6_define wsX6_define) := goodIn_app (goodIn_of _ (by decide +kernel)) ggX6_obeyInPage_X6_define
set_option maxRecDepth 20000 in
theorem ggX6_obeyInPage_X6_choose : GoodIn wsX6_obeyInPage wsX6_choose := goodIn_r _ [134, 118, 2, 135, 136, 137, 122, 138, 124, 139, 140, 141, 142, 126, 143, 144, 145, 146, 26, 147, 28, 148, 171, 172, 173, 174, 175, 176, 177, 178, 179, 198, 199, 200, 182, 183, 184, 185, 186, 187, 188] (by decide +kernel) (by decide +kernel)
set_option maxRecDepth 20000 in
theorem gX6_obeyInPage_X6_choose : GoodIn wsX6_obeyInPage (wsV RX6 123 RX6 yX6_choose wsX6_choose) := goodIn_app (goodIn_of _ (by decide +kernel)) ggX6_obeyInPage_X6_choose
set_option maxRecDepth 20000 in
theorem ggX6_obeyInPage_X6_move : GoodIn wsX6_obeyInPage wsX6_move := goodIn_r _ [152, 1, 2, 153, 154, 155, 156, 157, 77, 78, 79, 6, 80, 81, 11, 12, 13, 14, 4, 5, 7, 8, 9, 158, 159, 160, 26, 161, 148, 46, 71, 162, 24, 25, 27, 28, 72, 57, 58, 59, 60, 61, 62, 67, 68, 69, 70, 163, 164, 165, 166, 167, 168, 169, 170, 171, 172, 173, 174, 175, 176, 177, 178, 179, 180, 181, 182, 183, 184, 185, 186, 187, 188, 197] (by decide +kernel) (by decide +kernel)
set_option maxRecDepth 20000 in
theorem gX6_obeyInPage_X6_move : GoodIn wsX6_obeyInPage (wsV RX6 126 RX6 yX6_move wsX6_move) := goodIn_app (goodIn_of _ (by decide +kernel)) ggX6_obeyInPage_X6_move
theorem dX6_obeyInPage_0 : decode cX6_obeyInPage 0 = .ok (.aload_n 0, 1) := by decide +kernel
theorem dX6_obeyInPage_1 : decode cX6_obeyInPage 1 = .ok (.getfield 9, 3) := by decide +kernel
theorem dX6_obeyInPage_4 : decode cX6_obeyInPage 4 = .ok (.iload_n 1, 1) := by decide +kernel
theorem dX6_obeyInPage_5 : decode cX6_obeyInPage 5 = .ok (.invokevirtual 82, 3) := by decide +kernel
theorem dX6_obeyInPage_8 : decode cX6_obeyInPage 8 = .ok (.istore_n 2, 1) := by decide +kernel
theorem dX6_obeyInPage_9 : decode cX6_obeyInPage 9 = .ok (.iload_n 2, 1) := by decide +kernel
theorem dX6_obeyInPage_10 : decode cX6_obeyInPage 10 = .ok (.lookupswitch 134 #[(128, 74), (129, 91), (130, 98), (131, 105), (133, 107), (134, 112), (135, 120), (166, 128)], 74) := by decide +kernel
theorem dX6_obeyInPage_84 : decode cX6_obeyInPage 84 = .ok (.aload_n 0, 1) := by decide +kernel
theorem dX6_obeyInPage_85 : decode cX6_obeyInPage 85 = .ok (.aload_n 0, 1) := by decide +kernel
theorem dX6_obeyInPage_86 : decode cX6_obeyInPage 86 = .ok (.getfield 9, 3) := by decide +kernel
theorem dX6_obeyInPage_89 : decode cX6_obeyInPage 89 = .ok (.iload_n 1, 1) := by decide +kernel
theorem dX6_obeyInPage_90 : decode cX6_obeyInPage 90 = .ok (.iconst 1, 1) := by decide +kernel
theorem dX6_obeyInPage_91 : decode cX6_obeyInPage 91 = .ok (.iadd, 1) := by decide +kernel
theorem dX6_obeyInPage_92 : decode cX6_obeyInPage 92 = .ok (.iconst 1, 1) := by decide +kernel
theorem dX6_obeyInPage_93 : decode cX6_obeyInPage 93 = .ok (.invokevirtual 102, 3) := by decide +kernel
theorem dX6_obeyInPage_96 : decode cX6_obeyInPage 96 = .ok (.iconst 0, 1) := by decide +kernel
theorem dX6_obeyInPage_97 : decode cX6_obeyInPage 97 = .ok (.invokevirtual 106, 3) := by decide +kernel
theorem dX6_obeyInPage_100 : decode cX6_obeyInPage 100 = .ok (.ireturn, 1) := by decide +kernel
theorem dX6_obeyInPage_101 : decode cX6_obeyInPage 101 = .ok (.aload_n 0, 1) := by decide +kernel
theorem dX6_obeyInPage_102 : decode cX6_obeyInPage 102 = .ok (.iload_n 1, 1) := by decide +kernel
theorem dX6_obeyInPage_103 : decode cX6_obeyInPage 103 = .ok (.iconst 1, 1) := by decide +kernel
theorem dX6_obeyInPage_104 : decode cX6_obeyInPage 104 = .ok (.invokevirtual 110, 3) := by decide +kernel
theorem dX6_obeyInPage_107 : decode cX6_obeyInPage 107 = .ok (.ireturn, 1) := by decide +kernel
theorem dX6_obeyInPage_108 : decode cX6_obeyInPage 108 = .ok (.aload_n 0, 1) := by decide +kernel
theorem dX6_obeyInPage_109 : decode cX6_obeyInPage 109 = .ok (.iload_n 1, 1) := by decide +kernel
theorem dX6_obeyInPage_110 : decode cX6_obeyInPage 110 = .ok (.iconst 0, 1) := by decide +kernel
theorem dX6_obeyInPage_111 : decode cX6_obeyInPage 111 = .ok (.invokevirtual 110, 3) := by decide +kernel
theorem dX6_obeyInPage_114 : decode cX6_obeyInPage 114 = .ok (.ireturn, 1) := by decide +kernel
theorem dX6_obeyInPage_115 : decode cX6_obeyInPage 115 = .ok (.iconst 1, 1) := by decide +kernel
theorem dX6_obeyInPage_116 : decode cX6_obeyInPage 116 = .ok (.ireturn, 1) := by decide +kernel
theorem dX6_obeyInPage_117 : decode cX6_obeyInPage 117 = .ok (.aload_n 0, 1) := by decide +kernel
theorem dX6_obeyInPage_118 : decode cX6_obeyInPage 118 = .ok (.invokevirtual 113, 3) := by decide +kernel
theorem dX6_obeyInPage_121 : decode cX6_obeyInPage 121 = .ok (.ireturn, 1) := by decide +kernel
theorem dX6_obeyInPage_122 : decode cX6_obeyInPage 122 = .ok (.aload_n 0, 1) := by decide +kernel
theorem dX6_obeyInPage_123 : decode cX6_obeyInPage 123 = .ok (.getfield 39, 3) := by decide +kernel
theorem dX6_obeyInPage_126 : decode cX6_obeyInPage 126 = .ok (.invokevirtual 117, 3) := by decide +kernel
theorem dX6_obeyInPage_129 : decode cX6_obeyInPage 129 = .ok (.ireturn, 1) := by decide +kernel
theorem dX6_obeyInPage_130 : decode cX6_obeyInPage 130 = .ok (.aload_n 0, 1) := by decide +kernel
theorem dX6_obeyInPage_131 : decode cX6_obeyInPage 131 = .ok (.getfield 39, 3) := by decide +kernel
theorem dX6_obeyInPage_134 : decode cX6_obeyInPage 134 = .ok (.invokevirtual 120, 3) := by decide +kernel
theorem dX6_obeyInPage_137 : decode cX6_obeyInPage 137 = .ok (.ireturn, 1) := by decide +kernel
theorem dX6_obeyInPage_138 : decode cX6_obeyInPage 138 = .ok (.aload_n 0, 1) := by decide +kernel
theorem dX6_obeyInPage_139 : decode cX6_obeyInPage 139 = .ok (.iload_n 1, 1) := by decide +kernel
theorem dX6_obeyInPage_140 : decode cX6_obeyInPage 140 = .ok (.invokevirtual 90, 3) := by decide +kernel
theorem dX6_obeyInPage_143 : decode cX6_obeyInPage 143 = .ok (.ireturn, 1) := by decide +kernel
theorem dX6_obeyInPage_144 : decode cX6_obeyInPage 144 = .ok (.iload_n 2, 1) := by decide +kernel
theorem dX6_obeyInPage_145 : decode cX6_obeyInPage 145 = .ok (.sipush 128, 3) := by decide +kernel
theorem dX6_obeyInPage_148 : decode cX6_obeyInPage 148 = .ok (.if_icmp .ge 10, 3) := by decide +kernel
theorem dX6_obeyInPage_151 : decode cX6_obeyInPage 151 = .ok (.aload_n 0, 1) := by decide +kernel
theorem dX6_obeyInPage_152 : decode cX6_obeyInPage 152 = .ok (.iload_n 2, 1) := by decide +kernel
theorem dX6_obeyInPage_153 : decode cX6_obeyInPage 153 = .ok (.iconst 1, 1) := by decide +kernel
theorem dX6_obeyInPage_154 : decode cX6_obeyInPage 154 = .ok (.invokevirtual 106, 3) := by decide +kernel
theorem dX6_obeyInPage_157 : decode cX6_obeyInPage 157 = .ok (.ireturn, 1) := by decide +kernel
theorem dX6_obeyInPage_158 : decode cX6_obeyInPage 158 = .ok (.iload_n 2, 1) := by decide +kernel
theorem dX6_obeyInPage_159 : decode cX6_obeyInPage 159 = .ok (.sipush 158, 3) := by decide +kernel
theorem dX6_obeyInPage_162 : decode cX6_obeyInPage 162 = .ok (.if_icmp .lt 22, 3) := by decide +kernel
theorem dX6_obeyInPage_165 : decode cX6_obeyInPage 165 = .ok (.iload_n 2, 1) := by decide +kernel
theorem dX6_obeyInPage_166 : decode cX6_obeyInPage 166 = .ok (.sipush 166, 3) := by decide +kernel
theorem dX6_obeyInPage_169 : decode cX6_obeyInPage 169 = .ok (.if_icmp .ge 15, 3) := by decide +kernel
theorem dX6_obeyInPage_172 : decode cX6_obeyInPage 172 = .ok (.aload_n 0, 1) := by decide +kernel
theorem dX6_obeyInPage_173 : decode cX6_obeyInPage 173 = .ok (.iload_n 2, 1) := by decide +kernel
theorem dX6_obeyInPage_174 : decode cX6_obeyInPage 174 = .ok (.sipush 158, 3) := by decide +kernel
theorem dX6_obeyInPage_177 : decode cX6_obeyInPage 177 = .ok (.isub, 1) := by decide +kernel
theorem dX6_obeyInPage_178 : decode cX6_obeyInPage 178 = .ok (.invokevirtual 123, 3) := by decide +kernel
theorem dX6_obeyInPage_181 : decode cX6_obeyInPage 181 = .ok (.goto 9, 3) := by decide +kernel
theorem dX6_obeyInPage_184 : decode cX6_obeyInPage 184 = .ok (.aload_n 0, 1) := by decide +kernel
theorem dX6_obeyInPage_185 : decode cX6_obeyInPage 185 = .ok (.iload_n 2, 1) := by decide +kernel
theorem dX6_obeyInPage_186 : decode cX6_obeyInPage 186 = .ok (.iload_n 1, 1) := by decide +kernel
theorem dX6_obeyInPage_187 : decode cX6_obeyInPage 187 = .ok (.invokevirtual 126, 3) := by decide +kernel
theorem dX6_obeyInPage_190 : decode cX6_obeyInPage 190 = .ok (.ireturn, 1) := by decide +kernel
set_option maxRecDepth 20000 in
theorem ggX6_start_X0_number : GoodIn wsX6_start wsX0_number := goodIn_r _ [8, 9, 10, 11, 7, 12, 13, 14, 31, 32] (by decide +kernel) (by decide +kernel)
set_option maxRecDepth 20000 in
theorem gX6_start_X0_number : GoodIn wsX6_start (wsV RX6 102 RX0 yX0_number wsX0_number) := goodIn_app (goodIn_of _ (by decide +kernel)) ggX6_start_X0_number
set_option maxRecDepth 20000 in
theorem ggX6_start_X4_become : GoodIn wsX6_start wsX4_become := goodIn_r _ [19, 20, 21, 33] (by decide +kernel) (by decide +kernel)
set_option maxRecDepth 20000 in
theorem gX6_start_X4_become : GoodIn wsX6_start (wsV RX6 130 RX4 yX4_become wsX4_become) := goodIn_app (goodIn_of _ (by decide +kernel)) ggX6_start_X4_become
theorem dX6_start_0 : decode cX6_start 0 = .ok (.aload_n 0, 1) := by decide +kernel
theorem dX6_start_1 : decode cX6_start 1 = .ok (.iconst 1, 1) := by decide +kernel
theorem dX6_start_2 : decode cX6_start 2 = .ok (.putfield 43, 3) := by decide +kernel
theorem dX6_start_5 : decode cX6_start 5 = .ok (.aload_n 0, 1) := by decide +kernel
theorem dX6_start_6 : decode cX6_start 6 = .ok (.getfield 9, 3) := by decide +kernel
theorem dX6_start_9 : decode cX6_start 9 = .ok (.iload_n 1, 1) := by decide +kernel
theorem dX6_start_10 : decode cX6_start 10 = .ok (.iconst 1, 1) := by decide +kernel
theorem dX6_start_11 : decode cX6_start 11 = .ok (.iadd, 1) := by decide +kernel
theorem dX6_start_12 : decode cX6_start 12 = .ok (.iconst 1, 1) := by decide +kernel
theorem dX6_start_13 : decode cX6_start 13 = .ok (.invokevirtual 102, 3) := by decide +kernel
theorem dX6_start_16 : decode cX6_start 16 = .ok (.iconst 2, 1) := by decide +kernel
theorem dX6_start_17 : decode cX6_start 17 = .ok (.if_icmp .ne 51, 3) := by decide +kernel
theorem dX6_start_20 : decode cX6_start 20 = .ok (.aload_n 0, 1) := by decide +kernel
theorem dX6_start_21 : decode cX6_start 21 = .ok (.getfield 19, 3) := by decide +kernel
theorem dX6_start_24 : decode cX6_start 24 = .ok (.aload_n 0, 1) := by decide +kernel
theorem dX6_start_25 : decode cX6_start 25 = .ok (.getfield 9, 3) := by decide +kernel
theorem dX6_start_28 : decode cX6_start 28 = .ok (.iload_n 1, 1) := by decide +kernel
theorem dX6_start_29 : decode cX6_start 29 = .ok (.iconst 2, 1) := by decide +kernel
theorem dX6_start_30 : decode cX6_start 30 = .ok (.iadd, 1) := by decide +kernel
theorem dX6_start_31 : decode cX6_start 31 = .ok (.iconst 2, 1) := by decide +kernel
theorem dX6_start_32 : decode cX6_start 32 = .ok (.invokevirtual 102, 3) := by decide +kernel
theorem dX6_start_35 : decode cX6_start 35 = .ok (.aload_n 0, 1) := by decide +kernel
theorem dX6_start_36 : decode cX6_start 36 = .ok (.getfield 9, 3) := by decide +kernel
theorem dX6_start_39 : decode cX6_start 39 = .ok (.iload_n 1, 1) := by decide +kernel
theorem dX6_start_40 : decode cX6_start 40 = .ok (.iconst 4, 1) := by decide +kernel
theorem dX6_start_41 : decode cX6_start 41 = .ok (.iadd, 1) := by decide +kernel
theorem dX6_start_42 : decode cX6_start 42 = .ok (.iconst 2, 1) := by decide +kernel
theorem dX6_start_43 : decode cX6_start 43 = .ok (.invokevirtual 102, 3) := by decide +kernel
theorem dX6_start_46 : decode cX6_start 46 = .ok (.aload_n 0, 1) := by decide +kernel
theorem dX6_start_47 : decode cX6_start 47 = .ok (.getfield 9, 3) := by decide +kernel
theorem dX6_start_50 : decode cX6_start 50 = .ok (.iload_n 1, 1) := by decide +kernel
theorem dX6_start_51 : decode cX6_start 51 = .ok (.bipush 6, 2) := by decide +kernel
theorem dX6_start_53 : decode cX6_start 53 = .ok (.iadd, 1) := by decide +kernel
theorem dX6_start_54 : decode cX6_start 54 = .ok (.iconst 2, 1) := by decide +kernel
theorem dX6_start_55 : decode cX6_start 55 = .ok (.invokevirtual 102, 3) := by decide +kernel
theorem dX6_start_58 : decode cX6_start 58 = .ok (.invokevirtual 130, 3) := by decide +kernel
theorem dX6_start_61 : decode cX6_start 61 = .ok (.ifCond .eq 7, 3) := by decide +kernel
theorem dX6_start_64 : decode cX6_start 64 = .ok (.iconst 1, 1) := by decide +kernel
theorem dX6_start_65 : decode cX6_start 65 = .ok (.goto 4, 3) := by decide +kernel
theorem dX6_start_68 : decode cX6_start 68 = .ok (.iconst 0, 1) := by decide +kernel
theorem dX6_start_69 : decode cX6_start 69 = .ok (.ireturn, 1) := by decide +kernel
set_option maxRecDepth 20000 in
theorem ggX6_begin_X0_number : GoodIn wsX6_begin wsX0_number := goodIn_r _ [10, 11, 12, 13, 9, 14, 15, 16, 51, 52] (by decide +kernel) (by decide +kernel)
set_option maxRecDepth 20000 in
theorem gX6_begin_X0_number : GoodIn wsX6_begin (wsV RX6 102 RX0 yX0_number wsX0_number) := goodIn_app (goodIn_of _ (by decide +kernel)) ggX6_begin_X0_number
set_option maxRecDepth 20000 in
theorem ggX6_begin_X5_begin : GoodIn wsX6_begin wsX5_begin := goodIn_r _ [21, 22, 23, 24, 25, 53, 54, 55, 56, 57, 58, 59] (by decide +kernel) (by decide +kernel)
set_option maxRecDepth 20000 in
theorem gX6_begin_X5_begin : GoodIn wsX6_begin (wsV RX6 134 RX5 yX5_begin wsX5_begin) := goodIn_app (goodIn_of _ (by decide +kernel)) ggX6_begin_X5_begin
set_option maxRecDepth 20000 in
theorem ggX6_begin_X0_signedNumber : GoodIn wsX6_begin wsX0_signedNumber := goodIn_r _ [29, 30, 7, 8, 9, 10, 11, 12, 13, 14, 15, 16, 51, 52] (by decide +kernel) (by decide +kernel)
set_option maxRecDepth 20000 in
theorem gX6_begin_X0_signedNumber : GoodIn wsX6_begin (wsV RX6 136 RX0 yX0_signedNumber wsX0_signedNumber) := goodIn_app (goodIn_of _ (by decide +kernel)) ggX6_begin_X0_signedNumber
set_option maxRecDepth 20000 in
theorem ggX6_begin_X3_begin : GoodIn wsX6_begin wsX3_begin := goodIn_r _ [35, 36, 37, 38, 39, 40, 41, 60, 61, 62, 63, 64, 65, 66] (by decide +kernel) (by decide +kernel)
set_option maxRecDepth 20000 in
theorem gX6_begin_X3_begin : GoodIn wsX6_begin (wsV RX6 139 RX3 yX3_begin wsX3_begin) := goodIn_app (goodIn_of _ (by decide +kernel)) ggX6_begin_X3_begin
theorem dX6_begin_0 : decode cX6_begin 0 = .ok (.aload_n 0, 1) := by decide +kernel
theorem dX6_begin_1 : decode cX6_begin 1 = .ok (.getfield 9, 3) := by decide +kernel
theorem dX6_begin_4 : decode cX6_begin 4 = .ok (.iload_n 1, 1) := by decide +kernel
theorem dX6_begin_5 : decode cX6_begin 5 = .ok (.iconst 3, 1) := by decide +kernel
theorem dX6_begin_6 : decode cX6_begin 6 = .ok (.iadd, 1) := by decide +kernel
theorem dX6_begin_7 : decode cX6_begin 7 = .ok (.iconst 2, 1) := by decide +kernel
theorem dX6_begin_8 : decode cX6_begin 8 = .ok (.invokevirtual 102, 3) := by decide +kernel
theorem dX6_begin_11 : decode cX6_begin 11 = .ok (.aload_n 0, 1) := by decide +kernel
theorem dX6_begin_12 : decode cX6_begin 12 = .ok (.getfield 48, 3) := by decide +kernel
theorem dX6_begin_15 : decode cX6_begin 15 = .ok (.if_icmp .eq 5, 3) := by decide +kernel
theorem dX6_begin_18 : decode cX6_begin 18 = .ok (.iconst 0, 1) := by decide +kernel
theorem dX6_begin_19 : decode cX6_begin 19 = .ok (.ireturn, 1) := by decide +kernel
theorem dX6_begin_20 : decode cX6_begin 20 = .ok (.aload_n 0, 1) := by decide +kernel
theorem dX6_begin_21 : decode cX6_begin 21 = .ok (.iload_n 1, 1) := by decide +kernel
theorem dX6_begin_22 : decode cX6_begin 22 = .ok (.putfield 48, 3) := by decide +kernel
theorem dX6_begin_25 : decode cX6_begin 25 = .ok (.aload_n 0, 1) := by decide +kernel
theorem dX6_begin_26 : decode cX6_begin 26 = .ok (.getfield 39, 3) := by decide +kernel
theorem dX6_begin_29 : decode cX6_begin 29 = .ok (.invokevirtual 134, 3) := by decide +kernel
theorem dX6_begin_32 : decode cX6_begin 32 = .ok (.aload_n 0, 1) := by decide +kernel
theorem dX6_begin_33 : decode cX6_begin 33 = .ok (.iconst 2, 1) := by decide +kernel
theorem dX6_begin_34 : decode cX6_begin 34 = .ok (.putfield 43, 3) := by decide +kernel
theorem dX6_begin_37 : decode cX6_begin 37 = .ok (.aload_n 0, 1) := by decide +kernel
theorem dX6_begin_38 : decode cX6_begin 38 = .ok (.getfield 23, 3) := by decide +kernel
theorem dX6_begin_41 : decode cX6_begin 41 = .ok (.aload_n 0, 1) := by decide +kernel
theorem dX6_begin_42 : decode cX6_begin 42 = .ok (.getfield 9, 3) := by decide +kernel
theorem dX6_begin_45 : decode cX6_begin 45 = .ok (.iload_n 1, 1) := by decide +kernel
theorem dX6_begin_46 : decode cX6_begin 46 = .ok (.iconst 1, 1) := by decide +kernel
theorem dX6_begin_47 : decode cX6_begin 47 = .ok (.iadd, 1) := by decide +kernel
theorem dX6_begin_48 : decode cX6_begin 48 = .ok (.iconst 2, 1) := by decide +kernel
theorem dX6_begin_49 : decode cX6_begin 49 = .ok (.invokevirtual 136, 3) := by decide +kernel
theorem dX6_begin_52 : decode cX6_begin 52 = .ok (.iload_n 1, 1) := by decide +kernel
theorem dX6_begin_53 : decode cX6_begin 53 = .ok (.invokevirtual 139, 3) := by decide +kernel
theorem dX6_begin_56 : decode cX6_begin 56 = .ok (.ireturn, 1) := by decide +kernel
set_option maxRecDepth 20000 in
theorem ggX6_end_X5_nothingIsKept : GoodIn wsX6_end wsX5_nothingIsKept := goodIn_r _ [7, 8, 18, 19, 20, 21, 22, 23, 24] (by decide +kernel) (by decide +kernel)
set_option maxRecDepth 20000 in
theorem gX6_end_X5_nothingIsKept : GoodIn wsX6_end (wsV RX6 141 RX5 yX5_nothingIsKept wsX5_nothingIsKept) := goodIn_app (goodIn_of _ (by decide +kernel)) ggX6_end_X5_nothingIsKept
theorem dX6_end_0 : decode cX6_end 0 = .ok (.aload_n 0, 1) := by decide +kernel
theorem dX6_end_1 : decode cX6_end 1 = .ok (.iconst 1, 1) := by decide +kernel
theorem dX6_end_2 : decode cX6_end 2 = .ok (.putfield 43, 3) := by decide +kernel
theorem dX6_end_5 : decode cX6_end 5 = .ok (.aload_n 0, 1) := by decide +kernel
theorem dX6_end_6 : decode cX6_end 6 = .ok (.getfield 39, 3) := by decide +kernel
theorem dX6_end_9 : decode cX6_end 9 = .ok (.invokevirtual 141, 3) := by decide +kernel
theorem dX6_end_12 : decode cX6_end 12 = .ok (.ireturn, 1) := by decide +kernel
set_option maxRecDepth 20000 in
theorem ggX6_define_X0_number : GoodIn wsX6_define wsX0_number := goodIn_r _ [8, 9, 10, 11, 7, 12, 13, 14, 36, 37] (by decide +kernel) (by decide +kernel)
set_option maxRecDepth 20000 in
theorem gX6_define_X0_number : GoodIn wsX6_define (wsV RX6 102 RX0 yX0_number wsX0_number) := goodIn_app (goodIn_of _ (by decide +kernel)) ggX6_define_X0_number
set_option maxRecDepth 20000 in
theorem ggX6_define_X1_defineBehind : GoodIn wsX6_define wsX1_defineBehind := goodIn_r _ [19, 20, 21, 22, 38, 39, 40] (by decide +kernel) (by decide +kernel)
set_option maxRecDepth 20000 in
theorem gX6_define_X1_defineBehind : GoodIn wsX6_define (wsV RX6 144 RX1 yX1_defineBehind wsX1_defineBehind) := goodIn_app (goodIn_of _ (by decide +kernel)) ggX6_define_X1_defineBehind
set_option maxRecDepth 20000 in
theorem ggX6_define_X1_defineAhead : GoodIn wsX6_define wsX1_defineAhead := goodIn_r _ [26, 20, 21, 22, 38, 39, 40] (by decide +kernel) (by decide +kernel)
set_option maxRecDepth 20000 in
theorem gX6_define_X1_defineAhead : GoodIn wsX6_define (wsV RX6 147 RX1 yX1_defineAhead wsX1_defineAhead) := goodIn_app (goodIn_of _ (by decide +kernel)) ggX6_define_X1_defineAhead
theorem dX6_define_0 : decode cX6_define 0 = .ok (.aload_n 0, 1) := by decide +kernel
theorem dX6_define_1 : decode cX6_define 1 = .ok (.getfield 9, 3) := by decide +kernel
theorem dX6_define_4 : decode cX6_define 4 = .ok (.iload_n 1, 1) := by decide +kernel
theorem dX6_define_5 : decode cX6_define 5 = .ok (.iconst 1, 1) := by decide +kernel
theorem dX6_define_6 : decode cX6_define 6 = .ok (.iadd, 1) := by decide +kernel
theorem dX6_define_7 : decode cX6_define 7 = .ok (.iconst 1, 1) := by decide +kernel
theorem dX6_define_8 : decode cX6_define 8 = .ok (.invokevirtual 102, 3) := by decide +kernel
theorem dX6_define_11 : decode cX6_define 11 = .ok (.istore_n 2, 1) := by decide +kernel
theorem dX6_define_12 : decode cX6_define 12 = .ok (.aload_n 0, 1) := by decide +kernel
theorem dX6_define_13 : decode cX6_define 13 = .ok (.getfield 9, 3) := by decide +kernel
theorem dX6_define_16 : decode cX6_define 16 = .ok (.iload_n 1, 1) := by decide +kernel
theorem dX6_define_17 : decode cX6_define 17 = .ok (.iconst 2, 1) := by decide +kernel
theorem dX6_define_18 : decode cX6_define 18 = .ok (.iadd, 1) := by decide +kernel
theorem dX6_define_19 : decode cX6_define 19 = .ok (.iconst 2, 1) := by decide +kernel
theorem dX6_define_20 : decode cX6_define 20 = .ok (.invokevirtual 102, 3) := by decide +kernel
theorem dX6_define_23 : decode cX6_define 23 = .ok (.istore_n 3, 1) := by decide +kernel
theorem dX6_define_24 : decode cX6_define 24 = .ok (.aload_n 0, 1) := by decide +kernel
theorem dX6_define_25 : decode cX6_define 25 = .ok (.getfield 9, 3) := by decide +kernel
theorem dX6_define_28 : decode cX6_define 28 = .ok (.iload_n 1, 1) := by decide +kernel
theorem dX6_define_29 : decode cX6_define 29 = .ok (.iconst 4, 1) := by decide +kernel
theorem dX6_define_30 : decode cX6_define 30 = .ok (.iadd, 1) := by decide +kernel
theorem dX6_define_31 : decode cX6_define 31 = .ok (.iconst 2, 1) := by decide +kernel
theorem dX6_define_32 : decode cX6_define 32 = .ok (.invokevirtual 102, 3) := by decide +kernel
theorem dX6_define_35 : decode cX6_define 35 = .ok (.istore 4, 2) := by decide +kernel
theorem dX6_define_37 : decode cX6_define 37 = .ok (.aload_n 0, 1) := by decide +kernel
theorem dX6_define_38 : decode cX6_define 38 = .ok (.getfield 43, 3) := by decide +kernel
theorem dX6_define_41 : decode cX6_define 41 = .ok (.iconst 3, 1) := by decide +kernel
theorem dX6_define_42 : decode cX6_define 42 = .ok (.if_icmp .ne 17, 3) := by decide +kernel
theorem dX6_define_45 : decode cX6_define 45 = .ok (.aload_n 0, 1) := by decide +kernel
theorem dX6_define_46 : decode cX6_define 46 = .ok (.getfield 30, 3) := by decide +kernel
theorem dX6_define_49 : decode cX6_define 49 = .ok (.iload_n 2, 1) := by decide +kernel
theorem dX6_define_50 : decode cX6_define 50 = .ok (.iload_n 3, 1) := by decide +kernel
theorem dX6_define_51 : decode cX6_define 51 = .ok (.iload 4, 2) := by decide +kernel
theorem dX6_define_53 : decode cX6_define 53 = .ok (.invokevirtual 144, 3) := by decide +kernel
theorem dX6_define_56 : decode cX6_define 56 = .ok (.goto 14, 3) := by decide +kernel
theorem dX6_define_59 : decode cX6_define 59 = .ok (.aload_n 0, 1) := by decide +kernel
theorem dX6_define_60 : decode cX6_define 60 = .ok (.getfield 30, 3) := by decide +kernel
theorem dX6_define_63 : decode cX6_define 63 = .ok (.iload_n 2, 1) := by decide +kernel
theorem dX6_define_64 : decode cX6_define 64 = .ok (.iload_n 3, 1) := by decide +kernel
theorem dX6_define_65 : decode cX6_define 65 = .ok (.iload 4, 2) := by decide +kernel
theorem dX6_define_67 : decode cX6_define 67 = .ok (.invokevirtual 147, 3) := by decide +kernel
theorem dX6_define_70 : decode cX6_define 70 = .ok (.ireturn, 1) := by decide +kernel
set_option maxRecDepth 20000 in
theorem ggX6_last_X0_number : GoodIn wsX6_last wsX0_number := goodIn_r _ [11, 12, 13, 14, 10, 15, 16, 17, 45, 46] (by decide +kernel) (by decide +kernel)
set_option maxRecDepth 20000 in
theorem gX6_last_X0_number : GoodIn wsX6_last (wsV RX6 102 RX0 yX0_number wsX0_number) := goodIn_app (goodIn_of _ (by decide +kernel)) ggX6_last_X0_number
set_option maxRecDepth 20000 in
theorem ggX6_last_X6_hasUnitsOfStart : GoodIn wsX6_last wsX6_hasUnitsOfStart := goodIn_r _ [22, 3, 23, 13, 14, 10, 15, 16, 17, 36, 37, 38, 39, 40, 41, 42, 43, 44, 45, 46] (by decide +kernel) (by decide +kernel)
set_option maxRecDepth 20000 in
theorem gX6_last_X6_hasUnitsOfStart : GoodIn wsX6_last (wsV RX6 150 RX6 yX6_hasUnitsOfStart wsX6_hasUnitsOfStart) := goodIn_app (goodIn_of _ (by decide +kernel)) ggX6_last_X6_hasUnitsOfStart
set_option maxRecDepth 20000 in
theorem ggX6_last_X5_depth : GoodIn wsX6_last wsX5_depth := goodIn_r _ [28, 29, 47, 48, 49, 50, 51, 52, 53] (by decide +kernel) (by decide +kernel)
set_option maxRecDepth 20000 in
theorem gX6_last_X5_depth : GoodIn wsX6_last (wsV RX6 153 RX5 yX5_depth wsX5_depth) := goodIn_app (goodIn_of _ (by decide +kernel)) ggX6_last_X5_depth
set_option maxRecDepth 20000 in
theorem ggX6_last_X3_count : GoodIn wsX6_last wsX3_count := goodIn_r _ [34, 35, 54, 55, 56, 57, 58, 59, 60] (by decide +kernel) (by decide +kernel)
set_option maxRecDepth 20000 in
theorem gX6_last_X3_count : GoodIn wsX6_last (wsV RX6 156 RX3 yX3_count wsX3_count) := goodIn_app (goodIn_of _ (by decide +kernel)) ggX6_last_X3_count
theorem dX6_last_0 : decode cX6_last 0 = .ok (.aload_n 0, 1) := by decide +kernel
theorem dX6_last_1 : decode cX6_last 1 = .ok (.iload_n 1, 1) := by decide +kernel
theorem dX6_last_2 : decode cX6_last 2 = .ok (.putfield 51, 3) := by decide +kernel
theorem dX6_last_5 : decode cX6_last 5 = .ok (.aload_n 0, 1) := by decide +kernel
theorem dX6_last_6 : decode cX6_last 6 = .ok (.iconst 3, 1) := by decide +kernel
theorem dX6_last_7 : decode cX6_last 7 = .ok (.putfield 43, 3) := by decide +kernel
theorem dX6_last_10 : decode cX6_last 10 = .ok (.aload_n 0, 1) := by decide +kernel
theorem dX6_last_11 : decode cX6_last 11 = .ok (.getfield 9, 3) := by decide +kernel
theorem dX6_last_14 : decode cX6_last 14 = .ok (.iload_n 1, 1) := by decide +kernel
theorem dX6_last_15 : decode cX6_last 15 = .ok (.iconst 1, 1) := by decide +kernel
theorem dX6_last_16 : decode cX6_last 16 = .ok (.iadd, 1) := by decide +kernel
theorem dX6_last_17 : decode cX6_last 17 = .ok (.iconst 2, 1) := by decide +kernel
theorem dX6_last_18 : decode cX6_last 18 = .ok (.invokevirtual 102, 3) := by decide +kernel
theorem dX6_last_21 : decode cX6_last 21 = .ok (.aload_n 0, 1) := by decide +kernel
theorem dX6_last_22 : decode cX6_last 22 = .ok (.getfield 48, 3) := by decide +kernel
theorem dX6_last_25 : decode cX6_last 25 = .ok (.if_icmp .ne 61, 3) := by decide +kernel
theorem dX6_last_28 : decode cX6_last 28 = .ok (.aload_n 0, 1) := by decide +kernel
theorem dX6_last_29 : decode cX6_last 29 = .ok (.iload_n 1, 1) := by decide +kernel
theorem dX6_last_30 : decode cX6_last 30 = .ok (.iconst 3, 1) := by decide +kernel
theorem dX6_last_31 : decode cX6_last 31 = .ok (.iadd, 1) := by decide +kernel
theorem dX6_last_32 : decode cX6_last 32 = .ok (.invokevirtual 150, 3) := by decide +kernel
theorem dX6_last_35 : decode cX6_last 35 = .ok (.ifCond .eq 51, 3) := by decide +kernel
theorem dX6_last_38 : decode cX6_last 38 = .ok (.aload_n 0, 1) := by decide +kernel
theorem dX6_last_39 : decode cX6_last 39 = .ok (.getfield 9, 3) := by decide +kernel
theorem dX6_last_42 : decode cX6_last 42 = .ok (.iload_n 1, 1) := by decide +kernel
theorem dX6_last_43 : decode cX6_last 43 = .ok (.bipush 9, 2) := by decide +kernel
theorem dX6_last_45 : decode cX6_last 45 = .ok (.iadd, 1) := by decide +kernel
theorem dX6_last_46 : decode cX6_last 46 = .ok (.iconst 1, 1) := by decide +kernel
theorem dX6_last_47 : decode cX6_last 47 = .ok (.invokevirtual 102, 3) := by decide +kernel
theorem dX6_last_50 : decode cX6_last 50 = .ok (.aload_n 0, 1) := by decide +kernel
theorem dX6_last_51 : decode cX6_last 51 = .ok (.getfield 39, 3) := by decide +kernel
theorem dX6_last_54 : decode cX6_last 54 = .ok (.invokevirtual 153, 3) := by decide +kernel
theorem dX6_last_57 : decode cX6_last 57 = .ok (.if_icmp .ne 29, 3) := by decide +kernel
theorem dX6_last_60 : decode cX6_last 60 = .ok (.aload_n 0, 1) := by decide +kernel
theorem dX6_last_61 : decode cX6_last 61 = .ok (.getfield 9, 3) := by decide +kernel
theorem dX6_last_64 : decode cX6_last 64 = .ok (.iload_n 1, 1) := by decide +kernel
theorem dX6_last_65 : decode cX6_last 65 = .ok (.bipush 10, 2) := by decide +kernel
theorem dX6_last_67 : decode cX6_last 67 = .ok (.iadd, 1) := by decide +kernel
theorem dX6_last_68 : decode cX6_last 68 = .ok (.iconst 2, 1) := by decide +kernel
theorem dX6_last_69 : decode cX6_last 69 = .ok (.invokevirtual 102, 3) := by decide +kernel
theorem dX6_last_72 : decode cX6_last 72 = .ok (.aload_n 0, 1) := by decide +kernel
theorem dX6_last_73 : decode cX6_last 73 = .ok (.getfield 23, 3) := by decide +kernel
theorem dX6_last_76 : decode cX6_last 76 = .ok (.invokevirtual 156, 3) := by decide +kernel
theorem dX6_last_79 : decode cX6_last 79 = .ok (.if_icmp .ne 7, 3) := by decide +kernel
theorem dX6_last_82 : decode cX6_last 82 = .ok (.iconst 1, 1) := by decide +kernel
theorem dX6_last_83 : decode cX6_last 83 = .ok (.goto 4, 3) := by decide +kernel
theorem dX6_last_86 : decode cX6_last 86 = .ok (.iconst 0, 1) := by decide +kernel
theorem dX6_last_87 : decode cX6_last 87 = .ok (.ireturn, 1) := by decide +kernel
set_option maxRecDepth 20000 in
theorem ggX6_hasUnitsOfStart_X0_at : GoodIn wsX6_hasUnitsOfStart wsX0_at := goodIn_r _ [6, 7, 8, 18, 19] (by decide +kernel) (by decide +kernel)
set_option maxRecDepth 20000 in
theorem gX6_hasUnitsOfStart_X0_at : GoodIn wsX6_hasUnitsOfStart (wsV RX6 82 RX0 yX0_at wsX0_at) := goodIn_app (goodIn_of _ (by decide +kernel)) ggX6_hasUnitsOfStart_X0_at
theorem dX6_hasUnitsOfStart_0 : decode cX6_hasUnitsOfStart 0 = .ok (.iconst 0, 1) := by decide +kernel
theorem dX6_hasUnitsOfStart_1 : decode cX6_hasUnitsOfStart 1 = .ok (.istore_n 2, 1) := by decide +kernel
theorem dX6_hasUnitsOfStart_2 : decode cX6_hasUnitsOfStart 2 = .ok (.iload_n 2, 1) := by decide +kernel
theorem dX6_hasUnitsOfStart_3 : decode cX6_hasUnitsOfStart 3 = .ok (.bipush 6, 2) := by decide +kernel
theorem dX6_hasUnitsOfStart_5 : decode cX6_hasUnitsOfStart 5 = .ok (.if_icmp .ge 34, 3) := by decide +kernel
theorem dX6_hasUnitsOfStart_8 : decode cX6_hasUnitsOfStart 8 = .ok (.aload_n 0, 1) := by decide +kernel
theorem dX6_hasUnitsOfStart_9 : decode cX6_hasUnitsOfStart 9 = .ok (.getfield 9, 3) := by decide +kernel
theorem dX6_hasUnitsOfStart_12 : decode cX6_hasUnitsOfStart 12 = .ok (.iload_n 1, 1) := by decide +kernel
theorem dX6_hasUnitsOfStart_13 : decode cX6_hasUnitsOfStart 13 = .ok (.iload_n 2, 1) := by decide +kernel
theorem dX6_hasUnitsOfStart_14 : decode cX6_hasUnitsOfStart 14 = .ok (.iadd, 1) := by decide +kernel
theorem dX6_hasUnitsOfStart_15 : decode cX6_hasUnitsOfStart 15 = .ok (.invokevirtual 82, 3) := by decide +kernel
theorem dX6_hasUnitsOfStart_18 : decode cX6_hasUnitsOfStart 18 = .ok (.aload_n 0, 1) := by decide +kernel
theorem dX6_hasUnitsOfStart_19 : decode cX6_hasUnitsOfStart 19 = .ok (.getfield 9, 3) := by decide +kernel
theorem dX6_hasUnitsOfStart_22 : decode cX6_hasUnitsOfStart 22 = .ok (.iconst 2, 1) := by decide +kernel
theorem dX6_hasUnitsOfStart_23 : decode cX6_hasUnitsOfStart 23 = .ok (.iload_n 2, 1) := by decide +kernel
theorem dX6_hasUnitsOfStart_24 : decode cX6_hasUnitsOfStart 24 = .ok (.iadd, 1) := by decide +kernel
theorem dX6_hasUnitsOfStart_25 : decode cX6_hasUnitsOfStart 25 = .ok (.invokevirtual 82, 3) := by decide +kernel
theorem dX6_hasUnitsOfStart_28 : decode cX6_hasUnitsOfStart 28 = .ok (.if_icmp .eq 5, 3) := by decide +kernel
theorem dX6_hasUnitsOfStart_31 : decode cX6_hasUnitsOfStart 31 = .ok (.iconst 0, 1) := by decide +kernel
theorem dX6_hasUnitsOfStart_32 : decode cX6_hasUnitsOfStart 32 = .ok (.ireturn, 1) := by decide +kernel
theorem dX6_hasUnitsOfStart_33 : decode cX6_hasUnitsOfStart 33 = .ok (.iinc 2 1, 3) := by decide +kernel
theorem dX6_hasUnitsOfStart_36 : decode cX6_hasUnitsOfStart 36 = .ok (.goto (-34), 3) := by decide +kernel
theorem dX6_hasUnitsOfStart_39 : decode cX6_hasUnitsOfStart 39 = .ok (.iconst 1, 1) := by decide +kernel
theorem dX6_hasUnitsOfStart_40 : decode cX6_hasUnitsOfStart 40 = .ok (.ireturn, 1) := by decide +kernel
set_option maxRecDepth 20000 in
theorem ggX6_close_X0_number : GoodIn wsX6_close wsX0_number := goodIn_r _ [9, 10, 11, 12, 8, 13, 14, 15, 35, 36] (by decide +kernel) (by decide +kernel)
set_option maxRecDepth 20000 in
theorem gX6_close_X0_number : GoodIn wsX6_close (wsV RX6 102 RX0 yX0_number wsX0_number) := goodIn_app (goodIn_of _ (by decide +kernel)) ggX6_close_X0_number
set_option maxRecDepth 20000 in
theorem ggX6_close_X1_allAreBehind : GoodIn wsX6_close wsX1_allAreBehind := goodIn_r _ [20, 21, 37, 38, 39] (by decide +kernel) (by decide +kernel)
set_option maxRecDepth 20000 in
theorem gX6_close_X1_allAreBehind : GoodIn wsX6_close (wsV RX6 157 RX1 yX1_allAreBehind wsX1_allAreBehind) := goodIn_app (goodIn_of _ (by decide +kernel)) ggX6_close_X1_allAreBehind
set_option maxRecDepth 20000 in
theorem ggX6_close_X0_endsWell : GoodIn wsX6_close wsX0_endsWell := goodIn_r _ [25, 14, 10, 11, 12, 8, 13, 15, 35, 36] (by decide +kernel) (by decide +kernel)
set_option maxRecDepth 20000 in
theorem gX6_close_X0_endsWell : GoodIn wsX6_close (wsV RX6 160 RX0 yX0_endsWell wsX0_endsWell) := goodIn_app (goodIn_of _ (by decide +kernel)) ggX6_close_X0_endsWell
theorem dX6_close_0 : decode cX6_close 0 = .ok (.aload_n 0, 1) := by decide +kernel
theorem dX6_close_1 : decode cX6_close 1 = .ok (.iconst 4, 1) := by decide +kernel
theorem dX6_close_2 : decode cX6_close 2 = .ok (.putfield 43, 3) := by decide +kernel
theorem dX6_close_5 : decode cX6_close 5 = .ok (.aload_n 0, 1) := by decide +kernel
theorem dX6_close_6 : decode cX6_close 6 = .ok (.getfield 9, 3) := by decide +kernel
theorem dX6_close_9 : decode cX6_close 9 = .ok (.iload_n 1, 1) := by decide +kernel
theorem dX6_close_10 : decode cX6_close 10 = .ok (.iconst 1, 1) := by decide +kernel
theorem dX6_close_11 : decode cX6_close 11 = .ok (.iadd, 1) := by decide +kernel
theorem dX6_close_12 : decode cX6_close 12 = .ok (.iconst 2, 1) := by decide +kernel
theorem dX6_close_13 : decode cX6_close 13 = .ok (.invokevirtual 102, 3) := by decide +kernel
theorem dX6_close_16 : decode cX6_close 16 = .ok (.aload_n 0, 1) := by decide +kernel
theorem dX6_close_17 : decode cX6_close 17 = .ok (.getfield 51, 3) := by decide +kernel
theorem dX6_close_20 : decode cX6_close 20 = .ok (.if_icmp .ne 45, 3) := by decide +kernel
theorem dX6_close_23 : decode cX6_close 23 = .ok (.aload_n 0, 1) := by decide +kernel
theorem dX6_close_24 : decode cX6_close 24 = .ok (.getfield 9, 3) := by decide +kernel
theorem dX6_close_27 : decode cX6_close 27 = .ok (.iload_n 1, 1) := by decide +kernel
theorem dX6_close_28 : decode cX6_close 28 = .ok (.iconst 3, 1) := by decide +kernel
theorem dX6_close_29 : decode cX6_close 29 = .ok (.iadd, 1) := by decide +kernel
theorem dX6_close_30 : decode cX6_close 30 = .ok (.iconst 1, 1) := by decide +kernel
theorem dX6_close_31 : decode cX6_close 31 = .ok (.invokevirtual 102, 3) := by decide +kernel
theorem dX6_close_34 : decode cX6_close 34 = .ok (.iconst 2, 1) := by decide +kernel
theorem dX6_close_35 : decode cX6_close 35 = .ok (.if_icmp .ne 30, 3) := by decide +kernel
theorem dX6_close_38 : decode cX6_close 38 = .ok (.aload_n 0, 1) := by decide +kernel
theorem dX6_close_39 : decode cX6_close 39 = .ok (.getfield 30, 3) := by decide +kernel
theorem dX6_close_42 : decode cX6_close 42 = .ok (.invokevirtual 157, 3) := by decide +kernel
theorem dX6_close_45 : decode cX6_close 45 = .ok (.ifCond .eq 20, 3) := by decide +kernel
theorem dX6_close_48 : decode cX6_close 48 = .ok (.aload_n 0, 1) := by decide +kernel
theorem dX6_close_49 : decode cX6_close 49 = .ok (.getfield 9, 3) := by decide +kernel
theorem dX6_close_52 : decode cX6_close 52 = .ok (.iload_n 1, 1) := by decide +kernel
theorem dX6_close_53 : decode cX6_close 53 = .ok (.iconst 4, 1) := by decide +kernel
theorem dX6_close_54 : decode cX6_close 54 = .ok (.iadd, 1) := by decide +kernel
theorem dX6_close_55 : decode cX6_close 55 = .ok (.invokevirtual 160, 3) := by decide +kernel
theorem dX6_close_58 : decode cX6_close 58 = .ok (.ifCond .eq 7, 3) := by decide +kernel
theorem dX6_close_61 : decode cX6_close 61 = .ok (.iconst 1, 1) := by decide +kernel
theorem dX6_close_62 : decode cX6_close 62 = .ok (.goto 4, 3) := by decide +kernel
theorem dX6_close_65 : decode cX6_close 65 = .ok (.iconst 0, 1) := by decide +kernel
theorem dX6_close_66 : decode cX6_close 66 = .ok (.ireturn, 1) := by decide +kernel
set_option maxRecDepth 20000 in
theorem ggX6_choose_X1_knows : GoodIn wsX6_choose wsX1_knows := goodIn_r _ [7, 8, 31, 32, 33] (by decide +kernel) (by decide +kernel)
set_option maxRecDepth 20000 in
theorem gX6_choose_X1_knows : GoodIn wsX6_choose (wsV RX6 163 RX1 yX1_knows wsX1_knows) := goodIn_app (goodIn_of _ (by decide +kernel)) ggX6_choose_X1_knows
set_option maxRecDepth 20000 in
theorem ggX6_choose_X1_scaleOf : GoodIn wsX6_choose wsX1_scaleOf := goodIn_r _ [12, 13, 14, 4, 5, 6, 7, 8, 31, 32, 33] (by decide +kernel) (by decide +kernel)
set_option maxRecDepth 20000 in
theorem gX6_choose_X1_scaleOf : GoodIn wsX6_choose (wsV RX6 166 RX1 yX1_scaleOf wsX1_scaleOf) := goodIn_app (goodIn_of _ (by decide +kernel)) ggX6_choose_X1_scaleOf
set_option maxRecDepth 20000 in
theorem ggX6_choose_X5_choose : GoodIn wsX6_choose wsX5_choose := goodIn_r _ [19, 20, 21, 34, 35, 36, 37, 38, 39, 40] (by decide +kernel) (by decide +kernel)
set_option maxRecDepth 20000 in
theorem gX6_choose_X5_choose : GoodIn wsX6_choose (wsV RX6 169 RX5 yX5_choose wsX5_choose) := goodIn_app (goodIn_of _ (by decide +kernel)) ggX6_choose_X5_choose
theorem dX6_choose_0 : decode cX6_choose 0 = .ok (.aload_n 0, 1) := by decide +kernel
theorem dX6_choose_1 : decode cX6_choose 1 = .ok (.getfield 30, 3) := by decide +kernel
theorem dX6_choose_4 : decode cX6_choose 4 = .ok (.iload_n 1, 1) := by decide +kernel
theorem dX6_choose_5 : decode cX6_choose 5 = .ok (.invokevirtual 163, 3) := by decide +kernel
theorem dX6_choose_8 : decode cX6_choose 8 = .ok (.ifCond .ne 5, 3) := by decide +kernel
theorem dX6_choose_11 : decode cX6_choose 11 = .ok (.iconst 0, 1) := by decide +kernel
theorem dX6_choose_12 : decode cX6_choose 12 = .ok (.ireturn, 1) := by decide +kernel
theorem dX6_choose_13 : decode cX6_choose 13 = .ok (.aload_n 0, 1) := by decide +kernel
theorem dX6_choose_14 : decode cX6_choose 14 = .ok (.getfield 39, 3) := by decide +kernel
theorem dX6_choose_17 : decode cX6_choose 17 = .ok (.iload_n 1, 1) := by decide +kernel
theorem dX6_choose_18 : decode cX6_choose 18 = .ok (.aload_n 0, 1) := by decide +kernel
theorem dX6_choose_19 : decode cX6_choose 19 = .ok (.getfield 30, 3) := by decide +kernel
theorem dX6_choose_22 : decode cX6_choose 22 = .ok (.iload_n 1, 1) := by decide +kernel
theorem dX6_choose_23 : decode cX6_choose 23 = .ok (.invokevirtual 166, 3) := by decide +kernel
theorem dX6_choose_26 : decode cX6_choose 26 = .ok (.invokevirtual 169, 3) := by decide +kernel
theorem dX6_choose_29 : decode cX6_choose 29 = .ok (.iconst 1, 1) := by decide +kernel
theorem dX6_choose_30 : decode cX6_choose 30 = .ok (.ireturn, 1) := by decide +kernel
set_option maxRecDepth 20000 in
theorem ggX6_character_X5_hasFont : GoodIn wsX6_character wsX5_hasFont := goodIn_r _ [9, 10, 64, 65, 66, 67, 68, 69, 70] (by decide +kernel) (by decide +kernel)
set_option maxRecDepth 20000 in
theorem gX6_character_X5_hasFont : GoodIn wsX6_character (wsV RX6 172 RX5 yX5_hasFont wsX5_hasFont) := goodIn_app (goodIn_of _ (by decide +kernel)) ggX6_character_X5_hasFont
set_option maxRecDepth 20000 in
theorem ggX6_character_X5_font : GoodIn wsX6_character wsX5_font := goodIn_r _ [14, 10, 64, 65, 66, 67, 68, 69, 70] (by decide +kernel) (by decide +kernel)
set_option maxRecDepth 20000 in
theorem gX6_character_X5_font : GoodIn wsX6_character (wsV RX6 175 RX5 yX5_font wsX5_font) := goodIn_app (goodIn_of _ (by decide +kernel)) ggX6_character_X5_font
set_option maxRecDepth 20000 in
theorem ggX6_character_X3_place : GoodIn wsX6_character wsX3_place := goodIn_r _ [19, 20, 21, 22, 23, 24, 25, 26, 8, 27, 28, 71, 72, 73, 74, 75, 76, 77, 64, 65, 66, 67, 68, 69, 70] (by decide +kernel) (by decide +kernel)
set_option maxRecDepth 20000 in
theorem gX6_character_X3_place : GoodIn wsX6_character (wsV RX6 178 RX3 yX3_place wsX3_place) := goodIn_app (goodIn_of _ (by decide +kernel)) ggX6_character_X3_place
set_option maxRecDepth 20000 in
theorem ggX6_character_X7_of : GoodIn wsX6_character wsX7_of := goodIn_r _ [33, 34, 35, 36, 32, 37, 78] (by decide +kernel) (by decide +kernel)
set_option maxRecDepth 20000 in
theorem gX6_character_X7_of : GoodIn wsX6_character (wsV RX6 181 RX7 yX7_of wsX7_of) := goodIn_app (goodIn_of _ (by decide +kernel)) ggX6_character_X7_of
set_option maxRecDepth 20000 in
theorem ggX6_character_X4_rounded : GoodIn wsX6_character wsX4_rounded := goodIn_r _ [42, 43, 44, 79] (by decide +kernel) (by decide +kernel)
set_option maxRecDepth 20000 in
theorem gX6_character_X4_rounded : GoodIn wsX6_character (wsV RX6 186 RX4 yX4_rounded wsX4_rounded) := goodIn_app (goodIn_of _ (by decide +kernel)) ggX6_character_X4_rounded
set_option maxRecDepth 20000 in
theorem ggX6_character_X5_advance : GoodIn wsX6_character wsX5_advance := goodIn_r _ [48, 28, 49, 50, 51, 8, 52, 53, 54, 39, 40, 41, 42, 43, 44, 64, 65, 66, 67, 68, 69, 70, 79] (by decide +kernel) (by decide +kernel)
set_option maxRecDepth 20000 in
theorem gX6_character_X5_advance : GoodIn wsX6_character (wsV RX6 189 RX5 yX5_advance wsX5_advance) := goodIn_app (goodIn_of _ (by decide +kernel)) ggX6_character_X5_advance
theorem dX6_character_0 : decode cX6_character 0 = .ok (.iload_n 1, 1) := by decide +kernel
theorem dX6_character_1 : decode cX6_character 1 = .ok (.bipush 127, 2) := by decide +kernel
theorem dX6_character_3 : decode cX6_character 3 = .ok (.if_icmp .gt 13, 3) := by decide +kernel
theorem dX6_character_6 : decode cX6_character 6 = .ok (.aload_n 0, 1) := by decide +kernel
theorem dX6_character_7 : decode cX6_character 7 = .ok (.getfield 39, 3) := by decide +kernel
theorem dX6_character_10 : decode cX6_character 10 = .ok (.invokevirtual 172, 3) := by decide +kernel
theorem dX6_character_13 : decode cX6_character 13 = .ok (.ifCond .ne 5, 3) := by decide +kernel
theorem dX6_character_16 : decode cX6_character 16 = .ok (.iconst 0, 1) := by decide +kernel
theorem dX6_character_17 : decode cX6_character 17 = .ok (.ireturn, 1) := by decide +kernel
theorem dX6_character_18 : decode cX6_character 18 = .ok (.aload_n 0, 1) := by decide +kernel
theorem dX6_character_19 : decode cX6_character 19 = .ok (.getfield 23, 3) := by decide +kernel
theorem dX6_character_22 : decode cX6_character 22 = .ok (.iload_n 1, 1) := by decide +kernel
theorem dX6_character_23 : decode cX6_character 23 = .ok (.aload_n 0, 1) := by decide +kernel
theorem dX6_character_24 : decode cX6_character 24 = .ok (.getfield 39, 3) := by decide +kernel
theorem dX6_character_27 : decode cX6_character 27 = .ok (.invokevirtual 175, 3) := by decide +kernel
theorem dX6_character_30 : decode cX6_character 30 = .ok (.iconst 0, 1) := by decide +kernel
theorem dX6_character_31 : decode cX6_character 31 = .ok (.aload_n 0, 1) := by decide +kernel
theorem dX6_character_32 : decode cX6_character 32 = .ok (.getfield 39, 3) := by decide +kernel
theorem dX6_character_35 : decode cX6_character 35 = .ok (.invokevirtual 178, 3) := by decide +kernel
theorem dX6_character_38 : decode cX6_character 38 = .ok (.ifCond .ne 5, 3) := by decide +kernel
theorem dX6_character_41 : decode cX6_character 41 = .ok (.iconst 0, 1) := by decide +kernel
theorem dX6_character_42 : decode cX6_character 42 = .ok (.ireturn, 1) := by decide +kernel
theorem dX6_character_43 : decode cX6_character 43 = .ok (.iload_n 2, 1) := by decide +kernel
theorem dX6_character_44 : decode cX6_character 44 = .ok (.ifCond .eq 35, 3) := by decide +kernel
theorem dX6_character_47 : decode cX6_character 47 = .ok (.aload_n 0, 1) := by decide +kernel
theorem dX6_character_48 : decode cX6_character 48 = .ok (.getfield 15, 3) := by decide +kernel
theorem dX6_character_51 : decode cX6_character 51 = .ok (.aload_n 0, 1) := by decide +kernel
theorem dX6_character_52 : decode cX6_character 52 = .ok (.getfield 39, 3) := by decide +kernel
theorem dX6_character_55 : decode cX6_character 55 = .ok (.invokevirtual 175, 3) := by decide +kernel
theorem dX6_character_58 : decode cX6_character 58 = .ok (.iload_n 1, 1) := by decide +kernel
theorem dX6_character_59 : decode cX6_character 59 = .ok (.invokevirtual 181, 3) := by decide +kernel
theorem dX6_character_62 : decode cX6_character 62 = .ok (.istore_n 3, 1) := by decide +kernel
theorem dX6_character_63 : decode cX6_character 63 = .ok (.aload_n 0, 1) := by decide +kernel
theorem dX6_character_64 : decode cX6_character 64 = .ok (.getfield 39, 3) := by decide +kernel
theorem dX6_character_67 : decode cX6_character 67 = .ok (.iload_n 3, 1) := by decide +kernel
theorem dX6_character_68 : decode cX6_character 68 = .ok (.aload_n 0, 1) := by decide +kernel
theorem dX6_character_69 : decode cX6_character 69 = .ok (.getfield 19, 3) := by decide +kernel
theorem dX6_character_72 : decode cX6_character 72 = .ok (.iload_n 3, 1) := by decide +kernel
theorem dX6_character_73 : decode cX6_character 73 = .ok (.invokevirtual 186, 3) := by decide +kernel
theorem dX6_character_76 : decode cX6_character 76 = .ok (.invokevirtual 189, 3) := by decide +kernel
theorem dX6_character_79 : decode cX6_character 79 = .ok (.iconst 1, 1) := by decide +kernel
theorem dX6_character_80 : decode cX6_character 80 = .ok (.ireturn, 1) := by decide +kernel
set_option maxRecDepth 20000 in
theorem ggX6_rule_X0_signedNumber : GoodIn wsX6_rule wsX0_signedNumber := goodIn_r _ [9, 10, 11, 12, 8, 13, 14, 15, 16, 17, 18, 19, 65, 66] (by decide +kernel) (by decide +kernel)
set_option maxRecDepth 20000 in
theorem gX6_rule_X0_signedNumber : GoodIn wsX6_rule (wsV RX6 136 RX0 yX0_signedNumber wsX0_signedNumber) := goodIn_app (goodIn_of _ (by decide +kernel)) ggX6_rule_X0_signedNumber
set_option maxRecDepth 20000 in
theorem ggX6_rule_X3_place : GoodIn wsX6_rule wsX3_place := goodIn_r _ [24, 25, 26, 27, 28, 29, 30, 31, 32, 33, 34, 67, 68, 69, 70, 71, 72, 73, 74, 75, 76, 77, 78, 79, 80] (by decide +kernel) (by decide +kernel)
set_option maxRecDepth 20000 in
theorem gX6_rule_X3_place : GoodIn wsX6_rule (wsV RX6 178 RX3 yX3_place wsX3_place) := goodIn_app (goodIn_of _ (by decide +kernel)) ggX6_rule_X3_place
set_option maxRecDepth 20000 in
theorem ggX6_rule_X4_roundedUp : GoodIn wsX6_rule wsX4_roundedUp := goodIn_r _ [39, 40, 81] (by decide +kernel) (by decide +kernel)
set_option maxRecDepth 20000 in
theorem gX6_rule_X4_roundedUp : GoodIn wsX6_rule (wsV RX6 192 RX4 yX4_roundedUp wsX4_roundedUp) := goodIn_app (goodIn_of _ (by decide +kernel)) ggX6_rule_X4_roundedUp
set_option maxRecDepth 20000 in
theorem ggX6_rule_X4_rounded : GoodIn wsX6_rule wsX4_rounded := goodIn_r _ [44, 40, 45, 81] (by decide +kernel) (by decide +kernel)
set_option maxRecDepth 20000 in
theorem gX6_rule_X4_rounded : GoodIn wsX6_rule (wsV RX6 186 RX4 yX4_rounded wsX4_rounded) := goodIn_app (goodIn_of _ (by decide +kernel)) ggX6_rule_X4_rounded
set_option maxRecDepth 20000 in
theorem ggX6_rule_X5_advance : GoodIn wsX6_rule wsX5_advance := goodIn_r _ [49, 34, 50, 51, 52, 32, 53, 54, 55, 42, 43, 38, 44, 40, 45, 74, 75, 76, 77, 78, 79, 80, 81] (by decide +kernel) (by decide +kernel)
set_option maxRecDepth 20000 in
theorem gX6_rule_X5_advance : GoodIn wsX6_rule (wsV RX6 189 RX5 yX5_advance wsX5_advance) := goodIn_app (goodIn_of _ (by decide +kernel)) ggX6_rule_X5_advance
theorem dX6_rule_0 : decode cX6_rule 0 = .ok (.aload_n 0, 1) := by decide +kernel
theorem dX6_rule_1 : decode cX6_rule 1 = .ok (.getfield 9, 3) := by decide +kernel
theorem dX6_rule_4 : decode cX6_rule 4 = .ok (.iload_n 1, 1) := by decide +kernel
theorem dX6_rule_5 : decode cX6_rule 5 = .ok (.iconst 1, 1) := by decide +kernel
theorem dX6_rule_6 : decode cX6_rule 6 = .ok (.iadd, 1) := by decide +kernel
theorem dX6_rule_7 : decode cX6_rule 7 = .ok (.iconst 2, 1) := by decide +kernel
theorem dX6_rule_8 : decode cX6_rule 8 = .ok (.invokevirtual 136, 3) := by decide +kernel
theorem dX6_rule_11 : decode cX6_rule 11 = .ok (.istore_n 3, 1) := by decide +kernel
theorem dX6_rule_12 : decode cX6_rule 12 = .ok (.aload_n 0, 1) := by decide +kernel
theorem dX6_rule_13 : decode cX6_rule 13 = .ok (.getfield 9, 3) := by decide +kernel
theorem dX6_rule_16 : decode cX6_rule 16 = .ok (.iload_n 1, 1) := by decide +kernel
theorem dX6_rule_17 : decode cX6_rule 17 = .ok (.iconst 3, 1) := by decide +kernel
theorem dX6_rule_18 : decode cX6_rule 18 = .ok (.iadd, 1) := by decide +kernel
theorem dX6_rule_19 : decode cX6_rule 19 = .ok (.iconst 2, 1) := by decide +kernel
theorem dX6_rule_20 : decode cX6_rule 20 = .ok (.invokevirtual 136, 3) := by decide +kernel
theorem dX6_rule_23 : decode cX6_rule 23 = .ok (.istore 4, 2) := by decide +kernel
theorem dX6_rule_25 : decode cX6_rule 25 = .ok (.iload_n 3, 1) := by decide +kernel
theorem dX6_rule_26 : decode cX6_rule 26 = .ok (.ifCond .le 30, 3) := by decide +kernel
theorem dX6_rule_29 : decode cX6_rule 29 = .ok (.iload 4, 2) := by decide +kernel
theorem dX6_rule_31 : decode cX6_rule 31 = .ok (.ifCond .le 25, 3) := by decide +kernel
theorem dX6_rule_34 : decode cX6_rule 34 = .ok (.aload_n 0, 1) := by decide +kernel
theorem dX6_rule_35 : decode cX6_rule 35 = .ok (.getfield 23, 3) := by decide +kernel
theorem dX6_rule_38 : decode cX6_rule 38 = .ok (.sipush 128, 3) := by decide +kernel
theorem dX6_rule_41 : decode cX6_rule 41 = .ok (.iload_n 3, 1) := by decide +kernel
theorem dX6_rule_42 : decode cX6_rule 42 = .ok (.iload 4, 2) := by decide +kernel
theorem dX6_rule_44 : decode cX6_rule 44 = .ok (.aload_n 0, 1) := by decide +kernel
theorem dX6_rule_45 : decode cX6_rule 45 = .ok (.getfield 39, 3) := by decide +kernel
theorem dX6_rule_48 : decode cX6_rule 48 = .ok (.invokevirtual 178, 3) := by decide +kernel
theorem dX6_rule_51 : decode cX6_rule 51 = .ok (.ifCond .ne 5, 3) := by decide +kernel
theorem dX6_rule_54 : decode cX6_rule 54 = .ok (.iconst 0, 1) := by decide +kernel
theorem dX6_rule_55 : decode cX6_rule 55 = .ok (.ireturn, 1) := by decide +kernel
theorem dX6_rule_56 : decode cX6_rule 56 = .ok (.iload_n 2, 1) := by decide +kernel
theorem dX6_rule_57 : decode cX6_rule 57 = .ok (.ifCond .eq 38, 3) := by decide +kernel
theorem dX6_rule_60 : decode cX6_rule 60 = .ok (.aload_n 0, 1) := by decide +kernel
theorem dX6_rule_61 : decode cX6_rule 61 = .ok (.getfield 39, 3) := by decide +kernel
theorem dX6_rule_64 : decode cX6_rule 64 = .ok (.iload 4, 2) := by decide +kernel
theorem dX6_rule_66 : decode cX6_rule 66 = .ok (.iload 4, 2) := by decide +kernel
theorem dX6_rule_68 : decode cX6_rule 68 = .ok (.ifCond .le 15, 3) := by decide +kernel
theorem dX6_rule_71 : decode cX6_rule 71 = .ok (.aload_n 0, 1) := by decide +kernel
theorem dX6_rule_72 : decode cX6_rule 72 = .ok (.getfield 19, 3) := by decide +kernel
theorem dX6_rule_75 : decode cX6_rule 75 = .ok (.iload 4, 2) := by decide +kernel
theorem dX6_rule_77 : decode cX6_rule 77 = .ok (.invokevirtual 192, 3) := by decide +kernel
theorem dX6_rule_80 : decode cX6_rule 80 = .ok (.goto 12, 3) := by decide +kernel
theorem dX6_rule_83 : decode cX6_rule 83 = .ok (.aload_n 0, 1) := by decide +kernel
theorem dX6_rule_84 : decode cX6_rule 84 = .ok (.getfield 19, 3) := by decide +kernel
theorem dX6_rule_87 : decode cX6_rule 87 = .ok (.iload 4, 2) := by decide +kernel
theorem dX6_rule_89 : decode cX6_rule 89 = .ok (.invokevirtual 186, 3) := by decide +kernel
theorem dX6_rule_92 : decode cX6_rule 92 = .ok (.invokevirtual 189, 3) := by decide +kernel
theorem dX6_rule_95 : decode cX6_rule 95 = .ok (.iconst 1, 1) := by decide +kernel
theorem dX6_rule_96 : decode cX6_rule 96 = .ok (.ireturn, 1) := by decide +kernel
set_option maxRecDepth 20000 in
theorem ggX6_move_X2_bytesBehind : GoodIn wsX6_move wsX2_bytesBehind := goodIn_r _ [6, 7] (by decide +kernel) (by decide +kernel)
set_option maxRecDepth 20000 in
theorem gX6_move_X2_bytesBehind : GoodIn wsX6_move (va_wsS RX6 195 yX2_bytesBehind wsX2_bytesBehind) := goodIn_app (goodIn_of _ (by decide +kernel)) ggX6_move_X2_bytesBehind
set_option maxRecDepth 20000 in
theorem ggX6_move_X0_signedNumber : GoodIn wsX6_move wsX0_signedNumber := goodIn_r _ [12, 13, 14, 15, 11, 16, 17, 18, 19, 20, 21, 22, 64, 65] (by decide +kernel) (by decide +kernel)
set_option maxRecDepth 20000 in
theorem gX6_move_X0_signedNumber : GoodIn wsX6_move (wsV RX6 136 RX0 yX0_signedNumber wsX0_signedNumber) := goodIn_app (goodIn_of _ (by decide +kernel)) ggX6_move_X0_signedNumber
set_option maxRecDepth 20000 in
theorem ggX6_move_X5_moveRight : GoodIn wsX6_move wsX5_moveRight := goodIn_r _ [27, 28, 29, 30, 31, 32, 33, 26, 34, 35, 36, 37, 38, 39, 40, 41, 42, 43, 44, 45, 46, 66, 67, 68, 69, 70, 71, 72, 73] (by decide +kernel) (by decide +kernel)
set_option maxRecDepth 20000 in
theorem gX6_move_X5_moveRight : GoodIn wsX6_move (wsV RX6 198 RX5 yX5_moveRight wsX5_moveRight) := goodIn_app (goodIn_of _ (by decide +kernel)) ggX6_move_X5_moveRight
set_option maxRecDepth 20000 in
theorem ggX6_move_X5_stride : GoodIn wsX6_move wsX5_stride := goodIn_r _ [50, 29, 66, 67, 68, 69, 70, 71, 72] (by decide +kernel) (by decide +kernel)
set_option maxRecDepth 20000 in
theorem gX6_move_X5_stride : GoodIn wsX6_move (wsV RX6 202 RX5 yX5_stride wsX5_stride) := goodIn_app (goodIn_of _ (by decide +kernel)) ggX6_move_X5_stride
set_option maxRecDepth 20000 in
theorem ggX6_move_X5_moveDown : GoodIn wsX6_move wsX5_moveDown := goodIn_r _ [54, 28, 29, 30, 31, 32, 33, 26, 34, 35, 36, 37, 38, 39, 40, 41, 42, 43, 44, 45, 46, 66, 67, 68, 69, 70, 71, 72, 73] (by decide +kernel) (by decide +kernel)
set_option maxRecDepth 20000 in
theorem gX6_move_X5_moveDown : GoodIn wsX6_move (wsV RX6 206 RX5 yX5_moveDown wsX5_moveDown) := goodIn_app (goodIn_of _ (by decide +kernel)) ggX6_move_X5_moveDown
theorem dX6_move_0 : decode cX6_move 0 = .ok (.iload_n 1, 1) := by decide +kernel
theorem dX6_move_1 : decode cX6_move 1 = .ok (.sipush 136, 3) := by decide +kernel
theorem dX6_move_4 : decode cX6_move 4 = .ok (.if_icmp .lt 10, 3) := by decide +kernel
theorem dX6_move_7 : decode cX6_move 7 = .ok (.iload_n 1, 1) := by decide +kernel
theorem dX6_move_8 : decode cX6_move 8 = .ok (.sipush 158, 3) := by decide +kernel
theorem dX6_move_11 : decode cX6_move 11 = .ok (.if_icmp .lt 5, 3) := by decide +kernel
theorem dX6_move_14 : decode cX6_move 14 = .ok (.iconst 0, 1) := by decide +kernel
theorem dX6_move_15 : decode cX6_move 15 = .ok (.ireturn, 1) := by decide +kernel
theorem dX6_move_16 : decode cX6_move 16 = .ok (.aload_n 0, 1) := by decide +kernel
theorem dX6_move_17 : decode cX6_move 17 = .ok (.getfield 9, 3) := by decide +kernel
theorem dX6_move_20 : decode cX6_move 20 = .ok (.iload_n 2, 1) := by decide +kernel
theorem dX6_move_21 : decode cX6_move 21 = .ok (.iconst 1, 1) := by decide +kernel
theorem dX6_move_22 : decode cX6_move 22 = .ok (.iadd, 1) := by decide +kernel
theorem dX6_move_23 : decode cX6_move 23 = .ok (.iload_n 1, 1) := by decide +kernel
theorem dX6_move_24 : decode cX6_move 24 = .ok (.invokestatic 195, 3) := by decide +kernel
theorem dX6_move_27 : decode cX6_move 27 = .ok (.invokevirtual 136, 3) := by decide +kernel
theorem dX6_move_30 : decode cX6_move 30 = .ok (.istore_n 3, 1) := by decide +kernel
theorem dX6_move_31 : decode cX6_move 31 = .ok (.iload_n 1, 1) := by decide +kernel
theorem dX6_move_32 : decode cX6_move 32 = .ok (.sipush 139, 3) := by decide +kernel
theorem dX6_move_35 : decode cX6_move 35 = .ok (.if_icmp .ge 14, 3) := by decide +kernel
theorem dX6_move_38 : decode cX6_move 38 = .ok (.aload_n 0, 1) := by decide +kernel
theorem dX6_move_39 : decode cX6_move 39 = .ok (.getfield 39, 3) := by decide +kernel
theorem dX6_move_42 : decode cX6_move 42 = .ok (.iload_n 3, 1) := by decide +kernel
theorem dX6_move_43 : decode cX6_move 43 = .ok (.invokevirtual 198, 3) := by decide +kernel
theorem dX6_move_46 : decode cX6_move 46 = .ok (.goto 165, 3) := by decide +kernel
theorem dX6_move_49 : decode cX6_move 49 = .ok (.iload_n 1, 1) := by decide +kernel
theorem dX6_move_50 : decode cX6_move 50 = .ok (.sipush 143, 3) := by decide +kernel
theorem dX6_move_53 : decode cX6_move 53 = .ok (.if_icmp .ge 34, 3) := by decide +kernel
theorem dX6_move_56 : decode cX6_move 56 = .ok (.aload_n 0, 1) := by decide +kernel
theorem dX6_move_57 : decode cX6_move 57 = .ok (.getfield 39, 3) := by decide +kernel
theorem dX6_move_60 : decode cX6_move 60 = .ok (.aload_n 0, 1) := by decide +kernel
theorem dX6_move_61 : decode cX6_move 61 = .ok (.getfield 39, 3) := by decide +kernel
theorem dX6_move_64 : decode cX6_move 64 = .ok (.iconst 4, 1) := by decide +kernel
theorem dX6_move_65 : decode cX6_move 65 = .ok (.iload_n 1, 1) := by decide +kernel
theorem dX6_move_66 : decode cX6_move 66 = .ok (.sipush 139, 3) := by decide +kernel
theorem dX6_move_69 : decode cX6_move 69 = .ok (.if_icmp .eq 7, 3) := by decide +kernel
theorem dX6_move_72 : decode cX6_move 72 = .ok (.iconst 1, 1) := by decide +kernel
theorem dX6_move_73 : decode cX6_move 73 = .ok (.goto 4, 3) := by decide +kernel
theorem dX6_move_76 : decode cX6_move 76 = .ok (.iconst 0, 1) := by decide +kernel
theorem dX6_move_77 : decode cX6_move 77 = .ok (.iload_n 3, 1) := by decide +kernel
theorem dX6_move_78 : decode cX6_move 78 = .ok (.invokevirtual 202, 3) := by decide +kernel
theorem dX6_move_81 : decode cX6_move 81 = .ok (.invokevirtual 198, 3) := by decide +kernel
theorem dX6_move_84 : decode cX6_move 84 = .ok (.goto 127, 3) := by decide +kernel
theorem dX6_move_87 : decode cX6_move 87 = .ok (.iload_n 1, 1) := by decide +kernel
theorem dX6_move_88 : decode cX6_move 88 = .ok (.sipush 147, 3) := by decide +kernel
theorem dX6_move_91 : decode cX6_move 91 = .ok (.if_icmp .ge 34, 3) := by decide +kernel
theorem dX6_move_94 : decode cX6_move 94 = .ok (.aload_n 0, 1) := by decide +kernel
theorem dX6_move_95 : decode cX6_move 95 = .ok (.getfield 39, 3) := by decide +kernel
theorem dX6_move_98 : decode cX6_move 98 = .ok (.aload_n 0, 1) := by decide +kernel
theorem dX6_move_99 : decode cX6_move 99 = .ok (.getfield 39, 3) := by decide +kernel
theorem dX6_move_102 : decode cX6_move 102 = .ok (.iconst 5, 1) := by decide +kernel
theorem dX6_move_103 : decode cX6_move 103 = .ok (.iload_n 1, 1) := by decide +kernel
theorem dX6_move_104 : decode cX6_move 104 = .ok (.sipush 143, 3) := by decide +kernel
theorem dX6_move_107 : decode cX6_move 107 = .ok (.if_icmp .eq 7, 3) := by decide +kernel
theorem dX6_move_110 : decode cX6_move 110 = .ok (.iconst 1, 1) := by decide +kernel
theorem dX6_move_111 : decode cX6_move 111 = .ok (.goto 4, 3) := by decide +kernel
theorem dX6_move_114 : decode cX6_move 114 = .ok (.iconst 0, 1) := by decide +kernel
theorem dX6_move_115 : decode cX6_move 115 = .ok (.iload_n 3, 1) := by decide +kernel
theorem dX6_move_116 : decode cX6_move 116 = .ok (.invokevirtual 202, 3) := by decide +kernel
theorem dX6_move_119 : decode cX6_move 119 = .ok (.invokevirtual 198, 3) := by decide +kernel
theorem dX6_move_122 : decode cX6_move 122 = .ok (.goto 89, 3) := by decide +kernel
theorem dX6_move_125 : decode cX6_move 125 = .ok (.iload_n 1, 1) := by decide +kernel
theorem dX6_move_126 : decode cX6_move 126 = .ok (.sipush 150, 3) := by decide +kernel
theorem dX6_move_129 : decode cX6_move 129 = .ok (.if_icmp .ge 14, 3) := by decide +kernel
theorem dX6_move_132 : decode cX6_move 132 = .ok (.aload_n 0, 1) := by decide +kernel
theorem dX6_move_133 : decode cX6_move 133 = .ok (.getfield 39, 3) := by decide +kernel
theorem dX6_move_136 : decode cX6_move 136 = .ok (.iload_n 3, 1) := by decide +kernel
theorem dX6_move_137 : decode cX6_move 137 = .ok (.invokevirtual 206, 3) := by decide +kernel
theorem dX6_move_140 : decode cX6_move 140 = .ok (.goto 71, 3) := by decide +kernel
theorem dX6_move_143 : decode cX6_move 143 = .ok (.iload_n 1, 1) := by decide +kernel
theorem dX6_move_144 : decode cX6_move 144 = .ok (.sipush 154, 3) := by decide +kernel
theorem dX6_move_147 : decode cX6_move 147 = .ok (.if_icmp .ge 35, 3) := by decide +kernel
theorem dX6_move_150 : decode cX6_move 150 = .ok (.aload_n 0, 1) := by decide +kernel
theorem dX6_move_151 : decode cX6_move 151 = .ok (.getfield 39, 3) := by decide +kernel
theorem dX6_move_154 : decode cX6_move 154 = .ok (.aload_n 0, 1) := by decide +kernel
theorem dX6_move_155 : decode cX6_move 155 = .ok (.getfield 39, 3) := by decide +kernel
theorem dX6_move_158 : decode cX6_move 158 = .ok (.bipush 6, 2) := by decide +kernel
theorem dX6_move_160 : decode cX6_move 160 = .ok (.iload_n 1, 1) := by decide +kernel
theorem dX6_move_161 : decode cX6_move 161 = .ok (.sipush 150, 3) := by decide +kernel
theorem dX6_move_164 : decode cX6_move 164 = .ok (.if_icmp .eq 7, 3) := by decide +kernel
theorem dX6_move_167 : decode cX6_move 167 = .ok (.iconst 1, 1) := by decide +kernel
theorem dX6_move_168 : decode cX6_move 168 = .ok (.goto 4, 3) := by decide +kernel
theorem dX6_move_171 : decode cX6_move 171 = .ok (.iconst 0, 1) := by decide +kernel
theorem dX6_move_172 : decode cX6_move 172 = .ok (.iload_n 3, 1) := by decide +kernel
theorem dX6_move_173 : decode cX6_move 173 = .ok (.invokevirtual 202, 3) := by decide +kernel
theorem dX6_move_176 : decode cX6_move 176 = .ok (.invokevirtual 206, 3) := by decide +kernel
theorem dX6_move_179 : decode cX6_move 179 = .ok (.goto 32, 3) := by decide +kernel
theorem dX6_move_182 : decode cX6_move 182 = .ok (.aload_n 0, 1) := by decide +kernel
theorem dX6_move_183 : decode cX6_move 183 = .ok (.getfield 39, 3) := by decide +kernel
theorem dX6_move_186 : decode cX6_move 186 = .ok (.aload_n 0, 1) := by decide +kernel
theorem dX6_move_187 : decode cX6_move 187 = .ok (.getfield 39, 3) := by decide +kernel
theorem dX6_move_190 : decode cX6_move 190 = .ok (.bipush 7, 2) := by decide +kernel
theorem dX6_move_192 : decode cX6_move 192 = .ok (.iload_n 1, 1) := by decide +kernel
theorem dX6_move_193 : decode cX6_move 193 = .ok (.sipush 154, 3) := by decide +kernel
theorem dX6_move_196 : decode cX6_move 196 = .ok (.if_icmp .eq 7, 3) := by decide +kernel
theorem dX6_move_199 : decode cX6_move 199 = .ok (.iconst 1, 1) := by decide +kernel
theorem dX6_move_200 : decode cX6_move 200 = .ok (.goto 4, 3) := by decide +kernel
theorem dX6_move_203 : decode cX6_move 203 = .ok (.iconst 0, 1) := by decide +kernel
theorem dX6_move_204 : decode cX6_move 204 = .ok (.iload_n 3, 1) := by decide +kernel
theorem dX6_move_205 : decode cX6_move 205 = .ok (.invokevirtual 202, 3) := by decide +kernel
theorem dX6_move_208 : decode cX6_move 208 = .ok (.invokevirtual 206, 3) := by decide +kernel
theorem dX6_move_211 : decode cX6_move 211 = .ok (.iconst 1, 1) := by decide +kernel
theorem dX6_move_212 : decode cX6_move 212 = .ok (.ireturn, 1) := by decide +kernel
theorem dX7_init_0 : decode cX7_init 0 = .ok (.aload_n 0, 1) := by decide +kernel
theorem dX7_init_1 : decode cX7_init 1 = .ok (.invokespecial 1, 3) := by decide +kernel
theorem dX7_init_4 : decode cX7_init 4 = .ok (.aload_n 0, 1) := by decide +kernel
theorem dX7_init_5 : decode cX7_init 5 = .ok (.sipush 1024, 3) := by decide +kernel
