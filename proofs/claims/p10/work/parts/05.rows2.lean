theorem dX4_become_7 : decode cX4_become 7 = .ok (.if_icmp .lt 8, 3) := by decide +kernel
theorem dX4_become_10 : decode cX4_become 10 = .ok (.iload_n 3, 1) := by decide +kernel
theorem dX4_become_11 : decode cX4_become 11 = .ok (.iconst 1, 1) := by decide +kernel
theorem dX4_become_12 : decode cX4_become 12 = .ok (.if_icmp .ge 5, 3) := by decide +kernel
theorem dX4_become_15 : decode cX4_become 15 = .ok (.iconst 0, 1) := by decide +kernel
theorem dX4_become_16 : decode cX4_become 16 = .ok (.ireturn, 1) := by decide +kernel
theorem dX4_become_17 : decode cX4_become 17 = .ok (.aload_n 0, 1) := by decide +kernel
theorem dX4_become_18 : decode cX4_become 18 = .ok (.iload_n 1, 1) := by decide +kernel
theorem dX4_become_19 : decode cX4_become 19 = .ok (.i2d, 1) := by decide +kernel
theorem dX4_become_20 : decode cX4_become 20 = .ok (.iload_n 2, 1) := by decide +kernel
theorem dX4_become_21 : decode cX4_become 21 = .ok (.i2d, 1) := by decide +kernel
theorem dX4_become_22 : decode cX4_become 22 = .ok (.ddiv, 1) := by decide +kernel
theorem dX4_become_23 : decode cX4_become 23 = .ok (.iload_n 3, 1) := by decide +kernel
theorem dX4_become_24 : decode cX4_become 24 = .ok (.i2d, 1) := by decide +kernel
theorem dX4_become_25 : decode cX4_become 25 = .ok (.ldc2_w 13, 3) := by decide +kernel
theorem dX4_become_28 : decode cX4_become 28 = .ok (.ddiv, 1) := by decide +kernel
theorem dX4_become_29 : decode cX4_become 29 = .ok (.dmul, 1) := by decide +kernel
theorem dX4_become_30 : decode cX4_become 30 = .ok (.putfield 7, 3) := by decide +kernel
theorem dX4_become_33 : decode cX4_become 33 = .ok (.iconst 1, 1) := by decide +kernel
theorem dX4_become_34 : decode cX4_become 34 = .ok (.ireturn, 1) := by decide +kernel
theorem dX4_factor_0 : decode cX4_factor 0 = .ok (.aload_n 0, 1) := by decide +kernel
theorem dX4_factor_1 : decode cX4_factor 1 = .ok (.getfield 7, 3) := by decide +kernel
theorem dX4_factor_4 : decode cX4_factor 4 = .ok (.dreturn, 1) := by decide +kernel
theorem dX4_rounded_0 : decode cX4_rounded 0 = .ok (.aload_n 0, 1) := by decide +kernel
theorem dX4_rounded_1 : decode cX4_rounded 1 = .ok (.getfield 7, 3) := by decide +kernel
theorem dX4_rounded_4 : decode cX4_rounded 4 = .ok (.iload_n 1, 1) := by decide +kernel
theorem dX4_rounded_5 : decode cX4_rounded 5 = .ok (.i2d, 1) := by decide +kernel
theorem dX4_rounded_6 : decode cX4_rounded 6 = .ok (.dmul, 1) := by decide +kernel
theorem dX4_rounded_7 : decode cX4_rounded 7 = .ok (.dstore_n 2, 1) := by decide +kernel
theorem dX4_rounded_8 : decode cX4_rounded 8 = .ok (.dload_n 2, 1) := by decide +kernel
theorem dX4_rounded_9 : decode cX4_rounded 9 = .ok (.dconst 0, 1) := by decide +kernel
theorem dX4_rounded_10 : decode cX4_rounded 10 = .ok (.dcmp .l, 1) := by decide +kernel
theorem dX4_rounded_11 : decode cX4_rounded 11 = .ok (.ifCond .lt 12, 3) := by decide +kernel
theorem dX4_rounded_14 : decode cX4_rounded 14 = .ok (.dload_n 2, 1) := by decide +kernel
theorem dX4_rounded_15 : decode cX4_rounded 15 = .ok (.ldc2_w 15, 3) := by decide +kernel
theorem dX4_rounded_18 : decode cX4_rounded 18 = .ok (.dadd, 1) := by decide +kernel
theorem dX4_rounded_19 : decode cX4_rounded 19 = .ok (.d2i, 1) := by decide +kernel
theorem dX4_rounded_20 : decode cX4_rounded 20 = .ok (.goto 10, 3) := by decide +kernel
theorem dX4_rounded_23 : decode cX4_rounded 23 = .ok (.ldc2_w 15, 3) := by decide +kernel
theorem dX4_rounded_26 : decode cX4_rounded 26 = .ok (.dload_n 2, 1) := by decide +kernel
theorem dX4_rounded_27 : decode cX4_rounded 27 = .ok (.dsub, 1) := by decide +kernel
theorem dX4_rounded_28 : decode cX4_rounded 28 = .ok (.d2i, 1) := by decide +kernel
theorem dX4_rounded_29 : decode cX4_rounded 29 = .ok (.ineg, 1) := by decide +kernel
theorem dX4_rounded_30 : decode cX4_rounded 30 = .ok (.ireturn, 1) := by decide +kernel
theorem dX4_roundedUp_0 : decode cX4_roundedUp 0 = .ok (.aload_n 0, 1) := by decide +kernel
theorem dX4_roundedUp_1 : decode cX4_roundedUp 1 = .ok (.getfield 7, 3) := by decide +kernel
theorem dX4_roundedUp_4 : decode cX4_roundedUp 4 = .ok (.iload_n 1, 1) := by decide +kernel
theorem dX4_roundedUp_5 : decode cX4_roundedUp 5 = .ok (.i2d, 1) := by decide +kernel
theorem dX4_roundedUp_6 : decode cX4_roundedUp 6 = .ok (.dmul, 1) := by decide +kernel
theorem dX4_roundedUp_7 : decode cX4_roundedUp 7 = .ok (.dstore_n 2, 1) := by decide +kernel
theorem dX4_roundedUp_8 : decode cX4_roundedUp 8 = .ok (.dload_n 2, 1) := by decide +kernel
theorem dX4_roundedUp_9 : decode cX4_roundedUp 9 = .ok (.d2i, 1) := by decide +kernel
theorem dX4_roundedUp_10 : decode cX4_roundedUp 10 = .ok (.istore 4, 2) := by decide +kernel
theorem dX4_roundedUp_12 : decode cX4_roundedUp 12 = .ok (.iload 4, 2) := by decide +kernel
theorem dX4_roundedUp_14 : decode cX4_roundedUp 14 = .ok (.i2d, 1) := by decide +kernel
theorem dX4_roundedUp_15 : decode cX4_roundedUp 15 = .ok (.dload_n 2, 1) := by decide +kernel
theorem dX4_roundedUp_16 : decode cX4_roundedUp 16 = .ok (.dcmp .g, 1) := by decide +kernel
theorem dX4_roundedUp_17 : decode cX4_roundedUp 17 = .ok (.ifCond .ge 10, 3) := by decide +kernel
theorem dX4_roundedUp_20 : decode cX4_roundedUp 20 = .ok (.iload 4, 2) := by decide +kernel
theorem dX4_roundedUp_22 : decode cX4_roundedUp 22 = .ok (.iconst 1, 1) := by decide +kernel
theorem dX4_roundedUp_23 : decode cX4_roundedUp 23 = .ok (.iadd, 1) := by decide +kernel
theorem dX4_roundedUp_24 : decode cX4_roundedUp 24 = .ok (.goto 5, 3) := by decide +kernel
theorem dX4_roundedUp_27 : decode cX4_roundedUp 27 = .ok (.iload 4, 2) := by decide +kernel
theorem dX4_roundedUp_29 : decode cX4_roundedUp 29 = .ok (.ireturn, 1) := by decide +kernel
theorem dX5_init_0 : decode cX5_init 0 = .ok (.aload_n 0, 1) := by decide +kernel
theorem dX5_init_1 : decode cX5_init 1 = .ok (.invokespecial 1, 3) := by decide +kernel
theorem dX5_init_4 : decode cX5_init 4 = .ok (.aload_n 0, 1) := by decide +kernel
theorem dX5_init_5 : decode cX5_init 5 = .ok (.aload_n 1, 1) := by decide +kernel
theorem dX5_init_6 : decode cX5_init 6 = .ok (.putfield 7, 3) := by decide +kernel
theorem dX5_init_9 : decode cX5_init 9 = .ok (.aload_n 0, 1) := by decide +kernel
theorem dX5_init_10 : decode cX5_init 10 = .ok (.bipush 8, 2) := by decide +kernel
theorem dX5_init_12 : decode cX5_init 12 = .ok (.newarray .int, 2) := by decide +kernel
theorem dX5_init_14 : decode cX5_init 14 = .ok (.putfield 13, 3) := by decide +kernel
theorem dX5_init_17 : decode cX5_init 17 = .ok (.aload_n 0, 1) := by decide +kernel
theorem dX5_init_18 : decode cX5_init 18 = .ok (.sipush 160, 3) := by decide +kernel
theorem dX5_init_21 : decode cX5_init 21 = .ok (.newarray .int, 2) := by decide +kernel
theorem dX5_init_23 : decode cX5_init 23 = .ok (.putfield 17, 3) := by decide +kernel
theorem dX5_init_26 : decode cX5_init 26 = .ok (.aload_n 0, 1) := by decide +kernel
theorem dX5_init_27 : decode cX5_init 27 = .ok (.iconst 0, 1) := by decide +kernel
theorem dX5_init_28 : decode cX5_init 28 = .ok (.putfield 20, 3) := by decide +kernel
theorem dX5_init_31 : decode cX5_init 31 = .ok (.aload_n 0, 1) := by decide +kernel
theorem dX5_init_32 : decode cX5_init 32 = .ok (.iconst 0, 1) := by decide +kernel
theorem dX5_init_33 : decode cX5_init 33 = .ok (.putfield 24, 3) := by decide +kernel
theorem dX5_init_36 : decode cX5_init 36 = .ok (.aload_n 0, 1) := by decide +kernel
theorem dX5_init_37 : decode cX5_init 37 = .ok (.iconst (-1), 1) := by decide +kernel
theorem dX5_init_38 : decode cX5_init 38 = .ok (.putfield 27, 3) := by decide +kernel
theorem dX5_init_41 : decode cX5_init 41 = .ok (.aload_n 0, 1) := by decide +kernel
theorem dX5_init_42 : decode cX5_init 42 = .ok (.iconst 0, 1) := by decide +kernel
theorem dX5_init_43 : decode cX5_init 43 = .ok (.putfield 30, 3) := by decide +kernel
theorem dX5_init_46 : decode cX5_init 46 = .ok (.return_, 1) := by decide +kernel
set_option maxRecDepth 20000 in
theorem ggX5_clear_X5_begin : GoodIn wsX5_clear wsX5_begin := goodIn_r _ [6, 7, 8, 9, 10, 11, 12, 13, 14, 15, 16, 17] (by decide +kernel) (by decide +kernel)
set_option maxRecDepth 20000 in
theorem gX5_clear_X5_begin : GoodIn wsX5_clear (wsV RX5 33 RX5 yX5_begin wsX5_begin) := goodIn_app (goodIn_of _ (by decide +kernel)) ggX5_clear_X5_begin
theorem dX5_clear_0 : decode cX5_clear 0 = .ok (.aload_n 0, 1) := by decide +kernel
theorem dX5_clear_1 : decode cX5_clear 1 = .ok (.iconst 0, 1) := by decide +kernel
theorem dX5_clear_2 : decode cX5_clear 2 = .ok (.putfield 24, 3) := by decide +kernel
theorem dX5_clear_5 : decode cX5_clear 5 = .ok (.aload_n 0, 1) := by decide +kernel
theorem dX5_clear_6 : decode cX5_clear 6 = .ok (.invokevirtual 33, 3) := by decide +kernel
theorem dX5_clear_9 : decode cX5_clear 9 = .ok (.return_, 1) := by decide +kernel
theorem dX5_begin_0 : decode cX5_begin 0 = .ok (.iconst 0, 1) := by decide +kernel
theorem dX5_begin_1 : decode cX5_begin 1 = .ok (.istore_n 1, 1) := by decide +kernel
theorem dX5_begin_2 : decode cX5_begin 2 = .ok (.iload_n 1, 1) := by decide +kernel
theorem dX5_begin_3 : decode cX5_begin 3 = .ok (.bipush 8, 2) := by decide +kernel
theorem dX5_begin_5 : decode cX5_begin 5 = .ok (.if_icmp .ge 16, 3) := by decide +kernel
theorem dX5_begin_8 : decode cX5_begin 8 = .ok (.aload_n 0, 1) := by decide +kernel
theorem dX5_begin_9 : decode cX5_begin 9 = .ok (.getfield 13, 3) := by decide +kernel
theorem dX5_begin_12 : decode cX5_begin 12 = .ok (.iload_n 1, 1) := by decide +kernel
theorem dX5_begin_13 : decode cX5_begin 13 = .ok (.iconst 0, 1) := by decide +kernel
theorem dX5_begin_14 : decode cX5_begin 14 = .ok (.iastore, 1) := by decide +kernel
theorem dX5_begin_15 : decode cX5_begin 15 = .ok (.iinc 1 1, 3) := by decide +kernel
theorem dX5_begin_18 : decode cX5_begin 18 = .ok (.goto (-16), 3) := by decide +kernel
theorem dX5_begin_21 : decode cX5_begin 21 = .ok (.aload_n 0, 1) := by decide +kernel
theorem dX5_begin_22 : decode cX5_begin 22 = .ok (.iconst 0, 1) := by decide +kernel
theorem dX5_begin_23 : decode cX5_begin 23 = .ok (.putfield 20, 3) := by decide +kernel
theorem dX5_begin_26 : decode cX5_begin 26 = .ok (.aload_n 0, 1) := by decide +kernel
theorem dX5_begin_27 : decode cX5_begin 27 = .ok (.iconst (-1), 1) := by decide +kernel
theorem dX5_begin_28 : decode cX5_begin 28 = .ok (.putfield 27, 3) := by decide +kernel
theorem dX5_begin_31 : decode cX5_begin 31 = .ok (.aload_n 0, 1) := by decide +kernel
theorem dX5_begin_32 : decode cX5_begin 32 = .ok (.iconst 0, 1) := by decide +kernel
theorem dX5_begin_33 : decode cX5_begin 33 = .ok (.putfield 30, 3) := by decide +kernel
theorem dX5_begin_36 : decode cX5_begin 36 = .ok (.return_, 1) := by decide +kernel
theorem dX5_part_0 : decode cX5_part 0 = .ok (.iload_n 1, 1) := by decide +kernel
theorem dX5_part_1 : decode cX5_part 1 = .ok (.ifCond .lt 9, 3) := by decide +kernel
theorem dX5_part_4 : decode cX5_part 4 = .ok (.iload_n 1, 1) := by decide +kernel
theorem dX5_part_5 : decode cX5_part 5 = .ok (.bipush 8, 2) := by decide +kernel
theorem dX5_part_7 : decode cX5_part 7 = .ok (.if_icmp .lt 7, 3) := by decide +kernel
theorem dX5_part_10 : decode cX5_part 10 = .ok (.iconst 0, 1) := by decide +kernel
theorem dX5_part_11 : decode cX5_part 11 = .ok (.goto 9, 3) := by decide +kernel
theorem dX5_part_14 : decode cX5_part 14 = .ok (.aload_n 0, 1) := by decide +kernel
theorem dX5_part_15 : decode cX5_part 15 = .ok (.getfield 13, 3) := by decide +kernel
theorem dX5_part_18 : decode cX5_part 18 = .ok (.iload_n 1, 1) := by decide +kernel
theorem dX5_part_19 : decode cX5_part 19 = .ok (.iaload, 1) := by decide +kernel
theorem dX5_part_20 : decode cX5_part 20 = .ok (.ireturn, 1) := by decide +kernel
theorem dX5_nothingIsKept_0 : decode cX5_nothingIsKept 0 = .ok (.aload_n 0, 1) := by decide +kernel
theorem dX5_nothingIsKept_1 : decode cX5_nothingIsKept 1 = .ok (.getfield 20, 3) := by decide +kernel
theorem dX5_nothingIsKept_4 : decode cX5_nothingIsKept 4 = .ok (.ifCond .ne 7, 3) := by decide +kernel
theorem dX5_nothingIsKept_7 : decode cX5_nothingIsKept 7 = .ok (.iconst 1, 1) := by decide +kernel
theorem dX5_nothingIsKept_8 : decode cX5_nothingIsKept 8 = .ok (.goto 4, 3) := by decide +kernel
theorem dX5_nothingIsKept_11 : decode cX5_nothingIsKept 11 = .ok (.iconst 0, 1) := by decide +kernel
theorem dX5_nothingIsKept_12 : decode cX5_nothingIsKept 12 = .ok (.ireturn, 1) := by decide +kernel
theorem dX5_depth_0 : decode cX5_depth 0 = .ok (.aload_n 0, 1) := by decide +kernel
theorem dX5_depth_1 : decode cX5_depth 1 = .ok (.getfield 24, 3) := by decide +kernel
theorem dX5_depth_4 : decode cX5_depth 4 = .ok (.ireturn, 1) := by decide +kernel
theorem dX5_hasFont_0 : decode cX5_hasFont 0 = .ok (.aload_n 0, 1) := by decide +kernel
theorem dX5_hasFont_1 : decode cX5_hasFont 1 = .ok (.getfield 27, 3) := by decide +kernel
theorem dX5_hasFont_4 : decode cX5_hasFont 4 = .ok (.iconst (-1), 1) := by decide +kernel
theorem dX5_hasFont_5 : decode cX5_hasFont 5 = .ok (.if_icmp .eq 7, 3) := by decide +kernel
theorem dX5_hasFont_8 : decode cX5_hasFont 8 = .ok (.iconst 1, 1) := by decide +kernel
theorem dX5_hasFont_9 : decode cX5_hasFont 9 = .ok (.goto 4, 3) := by decide +kernel
theorem dX5_hasFont_12 : decode cX5_hasFont 12 = .ok (.iconst 0, 1) := by decide +kernel
theorem dX5_hasFont_13 : decode cX5_hasFont 13 = .ok (.ireturn, 1) := by decide +kernel
theorem dX5_font_0 : decode cX5_font 0 = .ok (.aload_n 0, 1) := by decide +kernel
theorem dX5_font_1 : decode cX5_font 1 = .ok (.getfield 27, 3) := by decide +kernel
theorem dX5_font_4 : decode cX5_font 4 = .ok (.ireturn, 1) := by decide +kernel
theorem dX5_choose_0 : decode cX5_choose 0 = .ok (.aload_n 0, 1) := by decide +kernel
theorem dX5_choose_1 : decode cX5_choose 1 = .ok (.iload_n 1, 1) := by decide +kernel
theorem dX5_choose_2 : decode cX5_choose 2 = .ok (.putfield 27, 3) := by decide +kernel
theorem dX5_choose_5 : decode cX5_choose 5 = .ok (.aload_n 0, 1) := by decide +kernel
theorem dX5_choose_6 : decode cX5_choose 6 = .ok (.iload_n 2, 1) := by decide +kernel
theorem dX5_choose_7 : decode cX5_choose 7 = .ok (.putfield 30, 3) := by decide +kernel
theorem dX5_choose_10 : decode cX5_choose 10 = .ok (.return_, 1) := by decide +kernel
theorem dX5_push_0 : decode cX5_push 0 = .ok (.aload_n 0, 1) := by decide +kernel
theorem dX5_push_1 : decode cX5_push 1 = .ok (.getfield 20, 3) := by decide +kernel
theorem dX5_push_4 : decode cX5_push 4 = .ok (.bipush 20, 2) := by decide +kernel
theorem dX5_push_6 : decode cX5_push 6 = .ok (.if_icmp .lt 5, 3) := by decide +kernel
theorem dX5_push_9 : decode cX5_push 9 = .ok (.iconst 0, 1) := by decide +kernel
theorem dX5_push_10 : decode cX5_push 10 = .ok (.ireturn, 1) := by decide +kernel
theorem dX5_push_11 : decode cX5_push 11 = .ok (.aload_n 0, 1) := by decide +kernel
theorem dX5_push_12 : decode cX5_push 12 = .ok (.getfield 13, 3) := by decide +kernel
theorem dX5_push_15 : decode cX5_push 15 = .ok (.iconst 0, 1) := by decide +kernel
theorem dX5_push_16 : decode cX5_push 16 = .ok (.aload_n 0, 1) := by decide +kernel
theorem dX5_push_17 : decode cX5_push 17 = .ok (.getfield 17, 3) := by decide +kernel
theorem dX5_push_20 : decode cX5_push 20 = .ok (.aload_n 0, 1) := by decide +kernel
theorem dX5_push_21 : decode cX5_push 21 = .ok (.getfield 20, 3) := by decide +kernel
theorem dX5_push_24 : decode cX5_push 24 = .ok (.bipush 8, 2) := by decide +kernel
theorem dX5_push_26 : decode cX5_push 26 = .ok (.imul, 1) := by decide +kernel
theorem dX5_push_27 : decode cX5_push 27 = .ok (.bipush 8, 2) := by decide +kernel
theorem dX5_push_29 : decode cX5_push 29 = .ok (.invokestatic 36, 3) := by decide +kernel
theorem dX5_push_32 : decode cX5_push 32 = .ok (.aload_n 0, 1) := by decide +kernel
theorem dX5_push_33 : decode cX5_push 33 = .ok (.dup, 1) := by decide +kernel
theorem dX5_push_34 : decode cX5_push 34 = .ok (.getfield 20, 3) := by decide +kernel
theorem dX5_push_37 : decode cX5_push 37 = .ok (.iconst 1, 1) := by decide +kernel
theorem dX5_push_38 : decode cX5_push 38 = .ok (.iadd, 1) := by decide +kernel
theorem dX5_push_39 : decode cX5_push 39 = .ok (.putfield 20, 3) := by decide +kernel
theorem dX5_push_42 : decode cX5_push 42 = .ok (.aload_n 0, 1) := by decide +kernel
theorem dX5_push_43 : decode cX5_push 43 = .ok (.aload_n 0, 1) := by decide +kernel
theorem dX5_push_44 : decode cX5_push 44 = .ok (.getfield 24, 3) := by decide +kernel
theorem dX5_push_47 : decode cX5_push 47 = .ok (.aload_n 0, 1) := by decide +kernel
theorem dX5_push_48 : decode cX5_push 48 = .ok (.getfield 20, 3) := by decide +kernel
theorem dX5_push_51 : decode cX5_push 51 = .ok (.invokestatic 42, 3) := by decide +kernel
theorem dX5_push_54 : decode cX5_push 54 = .ok (.putfield 24, 3) := by decide +kernel
theorem dX5_push_57 : decode cX5_push 57 = .ok (.iconst 1, 1) := by decide +kernel
theorem dX5_push_58 : decode cX5_push 58 = .ok (.ireturn, 1) := by decide +kernel
theorem dX5_pop_0 : decode cX5_pop 0 = .ok (.aload_n 0, 1) := by decide +kernel
theorem dX5_pop_1 : decode cX5_pop 1 = .ok (.getfield 20, 3) := by decide +kernel
theorem dX5_pop_4 : decode cX5_pop 4 = .ok (.ifCond .gt 5, 3) := by decide +kernel
theorem dX5_pop_7 : decode cX5_pop 7 = .ok (.iconst 0, 1) := by decide +kernel
theorem dX5_pop_8 : decode cX5_pop 8 = .ok (.ireturn, 1) := by decide +kernel
theorem dX5_pop_9 : decode cX5_pop 9 = .ok (.aload_n 0, 1) := by decide +kernel
theorem dX5_pop_10 : decode cX5_pop 10 = .ok (.dup, 1) := by decide +kernel
theorem dX5_pop_11 : decode cX5_pop 11 = .ok (.getfield 20, 3) := by decide +kernel
theorem dX5_pop_14 : decode cX5_pop 14 = .ok (.iconst 1, 1) := by decide +kernel
theorem dX5_pop_15 : decode cX5_pop 15 = .ok (.isub, 1) := by decide +kernel
theorem dX5_pop_16 : decode cX5_pop 16 = .ok (.putfield 20, 3) := by decide +kernel
theorem dX5_pop_19 : decode cX5_pop 19 = .ok (.aload_n 0, 1) := by decide +kernel
theorem dX5_pop_20 : decode cX5_pop 20 = .ok (.getfield 17, 3) := by decide +kernel
theorem dX5_pop_23 : decode cX5_pop 23 = .ok (.aload_n 0, 1) := by decide +kernel
theorem dX5_pop_24 : decode cX5_pop 24 = .ok (.getfield 20, 3) := by decide +kernel
theorem dX5_pop_27 : decode cX5_pop 27 = .ok (.bipush 8, 2) := by decide +kernel
theorem dX5_pop_29 : decode cX5_pop 29 = .ok (.imul, 1) := by decide +kernel
theorem dX5_pop_30 : decode cX5_pop 30 = .ok (.aload_n 0, 1) := by decide +kernel
theorem dX5_pop_31 : decode cX5_pop 31 = .ok (.getfield 13, 3) := by decide +kernel
theorem dX5_pop_34 : decode cX5_pop 34 = .ok (.iconst 0, 1) := by decide +kernel
theorem dX5_pop_35 : decode cX5_pop 35 = .ok (.bipush 8, 2) := by decide +kernel
theorem dX5_pop_37 : decode cX5_pop 37 = .ok (.invokestatic 36, 3) := by decide +kernel
theorem dX5_pop_40 : decode cX5_pop 40 = .ok (.iconst 1, 1) := by decide +kernel
theorem dX5_pop_41 : decode cX5_pop 41 = .ok (.ireturn, 1) := by decide +kernel
theorem dX5_stride_0 : decode cX5_stride 0 = .ok (.iload_n 1, 1) := by decide +kernel
theorem dX5_stride_1 : decode cX5_stride 1 = .ok (.iconst 4, 1) := by decide +kernel
theorem dX5_stride_2 : decode cX5_stride 2 = .ok (.if_icmp .lt 9, 3) := by decide +kernel
theorem dX5_stride_5 : decode cX5_stride 5 = .ok (.iload_n 1, 1) := by decide +kernel
theorem dX5_stride_6 : decode cX5_stride 6 = .ok (.bipush 7, 2) := by decide +kernel
theorem dX5_stride_8 : decode cX5_stride 8 = .ok (.if_icmp .le 5, 3) := by decide +kernel
theorem dX5_stride_11 : decode cX5_stride 11 = .ok (.iconst 0, 1) := by decide +kernel
theorem dX5_stride_12 : decode cX5_stride 12 = .ok (.ireturn, 1) := by decide +kernel
theorem dX5_stride_13 : decode cX5_stride 13 = .ok (.iload_n 2, 1) := by decide +kernel
theorem dX5_stride_14 : decode cX5_stride 14 = .ok (.ifCond .eq 10, 3) := by decide +kernel
theorem dX5_stride_17 : decode cX5_stride 17 = .ok (.aload_n 0, 1) := by decide +kernel
theorem dX5_stride_18 : decode cX5_stride 18 = .ok (.getfield 13, 3) := by decide +kernel
theorem dX5_stride_21 : decode cX5_stride 21 = .ok (.iload_n 1, 1) := by decide +kernel
theorem dX5_stride_22 : decode cX5_stride 22 = .ok (.iload_n 3, 1) := by decide +kernel
theorem dX5_stride_23 : decode cX5_stride 23 = .ok (.iastore, 1) := by decide +kernel
theorem dX5_stride_24 : decode cX5_stride 24 = .ok (.aload_n 0, 1) := by decide +kernel
theorem dX5_stride_25 : decode cX5_stride 25 = .ok (.getfield 13, 3) := by decide +kernel
theorem dX5_stride_28 : decode cX5_stride 28 = .ok (.iload_n 1, 1) := by decide +kernel
theorem dX5_stride_29 : decode cX5_stride 29 = .ok (.iaload, 1) := by decide +kernel
theorem dX5_stride_30 : decode cX5_stride 30 = .ok (.ireturn, 1) := by decide +kernel
set_option maxRecDepth 20000 in
theorem ggX5_moveRight_X5_hasFont : GoodIn wsX5_moveRight wsX5_hasFont := goodIn_r _ [8, 9, 21, 22, 23, 24, 25, 26, 27] (by decide +kernel) (by decide +kernel)
set_option maxRecDepth 20000 in
theorem gX5_moveRight_X5_hasFont : GoodIn wsX5_moveRight (wsV RX5 48 RX5 yX5_hasFont wsX5_hasFont) := goodIn_app (goodIn_of _ (by decide +kernel)) ggX5_moveRight_X5_hasFont
set_option maxRecDepth 20000 in
theorem ggX5_moveRight_X4_rounded : GoodIn wsX5_moveRight wsX4_rounded := goodIn_r _ [14, 15, 16, 28] (by decide +kernel) (by decide +kernel)
set_option maxRecDepth 20000 in
theorem gX5_moveRight_X4_rounded : GoodIn wsX5_moveRight (wsV RX5 52 RX4 yX4_rounded wsX4_rounded) := goodIn_app (goodIn_of _ (by decide +kernel)) ggX5_moveRight_X4_rounded
set_option maxRecDepth 20000 in
theorem ggX5_moveRight_X5_held : GoodIn wsX5_moveRight wsX5_held := goodIn_r _ [20, 3, 10, 11, 12, 13, 14, 15, 16, 21, 22, 23, 24, 25, 26, 27, 28] (by decide +kernel) (by decide +kernel)
set_option maxRecDepth 20000 in
theorem gX5_moveRight_X5_held : GoodIn wsX5_moveRight (wsV RX5 58 RX5 yX5_held wsX5_held) := goodIn_app (goodIn_of _ (by decide +kernel)) ggX5_moveRight_X5_held
theorem dX5_moveRight_0 : decode cX5_moveRight 0 = .ok (.aload_n 0, 1) := by decide +kernel
theorem dX5_moveRight_1 : decode cX5_moveRight 1 = .ok (.getfield 30, 3) := by decide +kernel
theorem dX5_moveRight_4 : decode cX5_moveRight 4 = .ok (.bipush 6, 2) := by decide +kernel
theorem dX5_moveRight_6 : decode cX5_moveRight 6 = .ok (.idiv, 1) := by decide +kernel
theorem dX5_moveRight_7 : decode cX5_moveRight 7 = .ok (.istore_n 2, 1) := by decide +kernel
theorem dX5_moveRight_8 : decode cX5_moveRight 8 = .ok (.aload_n 0, 1) := by decide +kernel
theorem dX5_moveRight_9 : decode cX5_moveRight 9 = .ok (.invokevirtual 48, 3) := by decide +kernel
theorem dX5_moveRight_12 : decode cX5_moveRight 12 = .ok (.ifCond .eq 20, 3) := by decide +kernel
theorem dX5_moveRight_15 : decode cX5_moveRight 15 = .ok (.iload_n 1, 1) := by decide +kernel
theorem dX5_moveRight_16 : decode cX5_moveRight 16 = .ok (.iload_n 2, 1) := by decide +kernel
theorem dX5_moveRight_17 : decode cX5_moveRight 17 = .ok (.if_icmp .ge 15, 3) := by decide +kernel
theorem dX5_moveRight_20 : decode cX5_moveRight 20 = .ok (.iload_n 1, 1) := by decide +kernel
theorem dX5_moveRight_21 : decode cX5_moveRight 21 = .ok (.bipush (-4), 2) := by decide +kernel
theorem dX5_moveRight_23 : decode cX5_moveRight 23 = .ok (.iload_n 2, 1) := by decide +kernel
theorem dX5_moveRight_24 : decode cX5_moveRight 24 = .ok (.imul, 1) := by decide +kernel
theorem dX5_moveRight_25 : decode cX5_moveRight 25 = .ok (.if_icmp .le 7, 3) := by decide +kernel
theorem dX5_moveRight_28 : decode cX5_moveRight 28 = .ok (.iconst 1, 1) := by decide +kernel
theorem dX5_moveRight_29 : decode cX5_moveRight 29 = .ok (.goto 4, 3) := by decide +kernel
theorem dX5_moveRight_32 : decode cX5_moveRight 32 = .ok (.iconst 0, 1) := by decide +kernel
theorem dX5_moveRight_33 : decode cX5_moveRight 33 = .ok (.istore_n 3, 1) := by decide +kernel
theorem dX5_moveRight_34 : decode cX5_moveRight 34 = .ok (.iload_n 3, 1) := by decide +kernel
theorem dX5_moveRight_35 : decode cX5_moveRight 35 = .ok (.ifCond .eq 21, 3) := by decide +kernel
theorem dX5_moveRight_38 : decode cX5_moveRight 38 = .ok (.aload_n 0, 1) := by decide +kernel
theorem dX5_moveRight_39 : decode cX5_moveRight 39 = .ok (.getfield 13, 3) := by decide +kernel
theorem dX5_moveRight_42 : decode cX5_moveRight 42 = .ok (.iconst 2, 1) := by decide +kernel
theorem dX5_moveRight_43 : decode cX5_moveRight 43 = .ok (.iaload, 1) := by decide +kernel
theorem dX5_moveRight_44 : decode cX5_moveRight 44 = .ok (.aload_n 0, 1) := by decide +kernel
theorem dX5_moveRight_45 : decode cX5_moveRight 45 = .ok (.getfield 7, 3) := by decide +kernel
theorem dX5_moveRight_48 : decode cX5_moveRight 48 = .ok (.iload_n 1, 1) := by decide +kernel
theorem dX5_moveRight_49 : decode cX5_moveRight 49 = .ok (.invokevirtual 52, 3) := by decide +kernel
theorem dX5_moveRight_52 : decode cX5_moveRight 52 = .ok (.iadd, 1) := by decide +kernel
theorem dX5_moveRight_53 : decode cX5_moveRight 53 = .ok (.goto 18, 3) := by decide +kernel
theorem dX5_moveRight_56 : decode cX5_moveRight 56 = .ok (.aload_n 0, 1) := by decide +kernel
theorem dX5_moveRight_57 : decode cX5_moveRight 57 = .ok (.getfield 7, 3) := by decide +kernel
theorem dX5_moveRight_60 : decode cX5_moveRight 60 = .ok (.aload_n 0, 1) := by decide +kernel
theorem dX5_moveRight_61 : decode cX5_moveRight 61 = .ok (.getfield 13, 3) := by decide +kernel
theorem dX5_moveRight_64 : decode cX5_moveRight 64 = .ok (.iconst 0, 1) := by decide +kernel
theorem dX5_moveRight_65 : decode cX5_moveRight 65 = .ok (.iaload, 1) := by decide +kernel
theorem dX5_moveRight_66 : decode cX5_moveRight 66 = .ok (.iload_n 1, 1) := by decide +kernel
theorem dX5_moveRight_67 : decode cX5_moveRight 67 = .ok (.iadd, 1) := by decide +kernel
theorem dX5_moveRight_68 : decode cX5_moveRight 68 = .ok (.invokevirtual 52, 3) := by decide +kernel
theorem dX5_moveRight_71 : decode cX5_moveRight 71 = .ok (.istore 4, 2) := by decide +kernel
theorem dX5_moveRight_73 : decode cX5_moveRight 73 = .ok (.aload_n 0, 1) := by decide +kernel
theorem dX5_moveRight_74 : decode cX5_moveRight 74 = .ok (.getfield 13, 3) := by decide +kernel
theorem dX5_moveRight_77 : decode cX5_moveRight 77 = .ok (.iconst 0, 1) := by decide +kernel
theorem dX5_moveRight_78 : decode cX5_moveRight 78 = .ok (.dup2, 1) := by decide +kernel
theorem dX5_moveRight_79 : decode cX5_moveRight 79 = .ok (.iaload, 1) := by decide +kernel
theorem dX5_moveRight_80 : decode cX5_moveRight 80 = .ok (.iload_n 1, 1) := by decide +kernel
theorem dX5_moveRight_81 : decode cX5_moveRight 81 = .ok (.iadd, 1) := by decide +kernel
theorem dX5_moveRight_82 : decode cX5_moveRight 82 = .ok (.iastore, 1) := by decide +kernel
theorem dX5_moveRight_83 : decode cX5_moveRight 83 = .ok (.aload_n 0, 1) := by decide +kernel
theorem dX5_moveRight_84 : decode cX5_moveRight 84 = .ok (.getfield 13, 3) := by decide +kernel
theorem dX5_moveRight_87 : decode cX5_moveRight 87 = .ok (.iconst 2, 1) := by decide +kernel
theorem dX5_moveRight_88 : decode cX5_moveRight 88 = .ok (.aload_n 0, 1) := by decide +kernel
theorem dX5_moveRight_89 : decode cX5_moveRight 89 = .ok (.iload 4, 2) := by decide +kernel
theorem dX5_moveRight_91 : decode cX5_moveRight 91 = .ok (.aload_n 0, 1) := by decide +kernel
theorem dX5_moveRight_92 : decode cX5_moveRight 92 = .ok (.getfield 13, 3) := by decide +kernel
theorem dX5_moveRight_95 : decode cX5_moveRight 95 = .ok (.iconst 0, 1) := by decide +kernel
theorem dX5_moveRight_96 : decode cX5_moveRight 96 = .ok (.iaload, 1) := by decide +kernel
theorem dX5_moveRight_97 : decode cX5_moveRight 97 = .ok (.invokevirtual 58, 3) := by decide +kernel
theorem dX5_moveRight_100 : decode cX5_moveRight 100 = .ok (.iastore, 1) := by decide +kernel
theorem dX5_moveRight_101 : decode cX5_moveRight 101 = .ok (.return_, 1) := by decide +kernel
set_option maxRecDepth 20000 in
theorem ggX5_moveDown_X5_hasFont : GoodIn wsX5_moveDown wsX5_hasFont := goodIn_r _ [8, 9, 21, 22, 23, 24, 25, 26, 27] (by decide +kernel) (by decide +kernel)
set_option maxRecDepth 20000 in
theorem gX5_moveDown_X5_hasFont : GoodIn wsX5_moveDown (wsV RX5 48 RX5 yX5_hasFont wsX5_hasFont) := goodIn_app (goodIn_of _ (by decide +kernel)) ggX5_moveDown_X5_hasFont
set_option maxRecDepth 20000 in
theorem ggX5_moveDown_X4_rounded : GoodIn wsX5_moveDown wsX4_rounded := goodIn_r _ [14, 15, 16, 28] (by decide +kernel) (by decide +kernel)
set_option maxRecDepth 20000 in
theorem gX5_moveDown_X4_rounded : GoodIn wsX5_moveDown (wsV RX5 52 RX4 yX4_rounded wsX4_rounded) := goodIn_app (goodIn_of _ (by decide +kernel)) ggX5_moveDown_X4_rounded
set_option maxRecDepth 20000 in
theorem ggX5_moveDown_X5_held : GoodIn wsX5_moveDown wsX5_held := goodIn_r _ [20, 3, 10, 11, 12, 13, 14, 15, 16, 21, 22, 23, 24, 25, 26, 27, 28] (by decide +kernel) (by decide +kernel)
set_option maxRecDepth 20000 in
theorem gX5_moveDown_X5_held : GoodIn wsX5_moveDown (wsV RX5 58 RX5 yX5_held wsX5_held) := goodIn_app (goodIn_of _ (by decide +kernel)) ggX5_moveDown_X5_held
theorem dX5_moveDown_0 : decode cX5_moveDown 0 = .ok (.iconst 4, 1) := by decide +kernel
theorem dX5_moveDown_1 : decode cX5_moveDown 1 = .ok (.aload_n 0, 1) := by decide +kernel
theorem dX5_moveDown_2 : decode cX5_moveDown 2 = .ok (.getfield 30, 3) := by decide +kernel
theorem dX5_moveDown_5 : decode cX5_moveDown 5 = .ok (.iconst 5, 1) := by decide +kernel
theorem dX5_moveDown_6 : decode cX5_moveDown 6 = .ok (.idiv, 1) := by decide +kernel
theorem dX5_moveDown_7 : decode cX5_moveDown 7 = .ok (.imul, 1) := by decide +kernel
theorem dX5_moveDown_8 : decode cX5_moveDown 8 = .ok (.istore_n 2, 1) := by decide +kernel
theorem dX5_moveDown_9 : decode cX5_moveDown 9 = .ok (.aload_n 0, 1) := by decide +kernel
theorem dX5_moveDown_10 : decode cX5_moveDown 10 = .ok (.invokevirtual 48, 3) := by decide +kernel
theorem dX5_moveDown_13 : decode cX5_moveDown 13 = .ok (.ifCond .eq 18, 3) := by decide +kernel
theorem dX5_moveDown_16 : decode cX5_moveDown 16 = .ok (.iload_n 1, 1) := by decide +kernel
theorem dX5_moveDown_17 : decode cX5_moveDown 17 = .ok (.iload_n 2, 1) := by decide +kernel
theorem dX5_moveDown_18 : decode cX5_moveDown 18 = .ok (.if_icmp .ge 13, 3) := by decide +kernel
theorem dX5_moveDown_21 : decode cX5_moveDown 21 = .ok (.iload_n 1, 1) := by decide +kernel
theorem dX5_moveDown_22 : decode cX5_moveDown 22 = .ok (.iload_n 2, 1) := by decide +kernel
theorem dX5_moveDown_23 : decode cX5_moveDown 23 = .ok (.ineg, 1) := by decide +kernel
theorem dX5_moveDown_24 : decode cX5_moveDown 24 = .ok (.if_icmp .le 7, 3) := by decide +kernel
theorem dX5_moveDown_27 : decode cX5_moveDown 27 = .ok (.iconst 1, 1) := by decide +kernel
theorem dX5_moveDown_28 : decode cX5_moveDown 28 = .ok (.goto 4, 3) := by decide +kernel
theorem dX5_moveDown_31 : decode cX5_moveDown 31 = .ok (.iconst 0, 1) := by decide +kernel
theorem dX5_moveDown_32 : decode cX5_moveDown 32 = .ok (.istore_n 3, 1) := by decide +kernel
theorem dX5_moveDown_33 : decode cX5_moveDown 33 = .ok (.iload_n 3, 1) := by decide +kernel
theorem dX5_moveDown_34 : decode cX5_moveDown 34 = .ok (.ifCond .eq 21, 3) := by decide +kernel
theorem dX5_moveDown_37 : decode cX5_moveDown 37 = .ok (.aload_n 0, 1) := by decide +kernel
theorem dX5_moveDown_38 : decode cX5_moveDown 38 = .ok (.getfield 13, 3) := by decide +kernel
theorem dX5_moveDown_41 : decode cX5_moveDown 41 = .ok (.iconst 3, 1) := by decide +kernel
theorem dX5_moveDown_42 : decode cX5_moveDown 42 = .ok (.iaload, 1) := by decide +kernel
theorem dX5_moveDown_43 : decode cX5_moveDown 43 = .ok (.aload_n 0, 1) := by decide +kernel
theorem dX5_moveDown_44 : decode cX5_moveDown 44 = .ok (.getfield 7, 3) := by decide +kernel
theorem dX5_moveDown_47 : decode cX5_moveDown 47 = .ok (.iload_n 1, 1) := by decide +kernel
theorem dX5_moveDown_48 : decode cX5_moveDown 48 = .ok (.invokevirtual 52, 3) := by decide +kernel
theorem dX5_moveDown_51 : decode cX5_moveDown 51 = .ok (.iadd, 1) := by decide +kernel
theorem dX5_moveDown_52 : decode cX5_moveDown 52 = .ok (.goto 18, 3) := by decide +kernel
theorem dX5_moveDown_55 : decode cX5_moveDown 55 = .ok (.aload_n 0, 1) := by decide +kernel
theorem dX5_moveDown_56 : decode cX5_moveDown 56 = .ok (.getfield 7, 3) := by decide +kernel
theorem dX5_moveDown_59 : decode cX5_moveDown 59 = .ok (.aload_n 0, 1) := by decide +kernel
theorem dX5_moveDown_60 : decode cX5_moveDown 60 = .ok (.getfield 13, 3) := by decide +kernel
theorem dX5_moveDown_63 : decode cX5_moveDown 63 = .ok (.iconst 1, 1) := by decide +kernel
theorem dX5_moveDown_64 : decode cX5_moveDown 64 = .ok (.iaload, 1) := by decide +kernel
theorem dX5_moveDown_65 : decode cX5_moveDown 65 = .ok (.iload_n 1, 1) := by decide +kernel
theorem dX5_moveDown_66 : decode cX5_moveDown 66 = .ok (.iadd, 1) := by decide +kernel
theorem dX5_moveDown_67 : decode cX5_moveDown 67 = .ok (.invokevirtual 52, 3) := by decide +kernel
theorem dX5_moveDown_70 : decode cX5_moveDown 70 = .ok (.istore 4, 2) := by decide +kernel
theorem dX5_moveDown_72 : decode cX5_moveDown 72 = .ok (.aload_n 0, 1) := by decide +kernel
theorem dX5_moveDown_73 : decode cX5_moveDown 73 = .ok (.getfield 13, 3) := by decide +kernel
theorem dX5_moveDown_76 : decode cX5_moveDown 76 = .ok (.iconst 1, 1) := by decide +kernel
theorem dX5_moveDown_77 : decode cX5_moveDown 77 = .ok (.dup2, 1) := by decide +kernel
theorem dX5_moveDown_78 : decode cX5_moveDown 78 = .ok (.iaload, 1) := by decide +kernel
theorem dX5_moveDown_79 : decode cX5_moveDown 79 = .ok (.iload_n 1, 1) := by decide +kernel
theorem dX5_moveDown_80 : decode cX5_moveDown 80 = .ok (.iadd, 1) := by decide +kernel
theorem dX5_moveDown_81 : decode cX5_moveDown 81 = .ok (.iastore, 1) := by decide +kernel
theorem dX5_moveDown_82 : decode cX5_moveDown 82 = .ok (.aload_n 0, 1) := by decide +kernel
theorem dX5_moveDown_83 : decode cX5_moveDown 83 = .ok (.getfield 13, 3) := by decide +kernel
theorem dX5_moveDown_86 : decode cX5_moveDown 86 = .ok (.iconst 3, 1) := by decide +kernel
theorem dX5_moveDown_87 : decode cX5_moveDown 87 = .ok (.aload_n 0, 1) := by decide +kernel
theorem dX5_moveDown_88 : decode cX5_moveDown 88 = .ok (.iload 4, 2) := by decide +kernel
theorem dX5_moveDown_90 : decode cX5_moveDown 90 = .ok (.aload_n 0, 1) := by decide +kernel
theorem dX5_moveDown_91 : decode cX5_moveDown 91 = .ok (.getfield 13, 3) := by decide +kernel
theorem dX5_moveDown_94 : decode cX5_moveDown 94 = .ok (.iconst 1, 1) := by decide +kernel
theorem dX5_moveDown_95 : decode cX5_moveDown 95 = .ok (.iaload, 1) := by decide +kernel
theorem dX5_moveDown_96 : decode cX5_moveDown 96 = .ok (.invokevirtual 58, 3) := by decide +kernel
theorem dX5_moveDown_99 : decode cX5_moveDown 99 = .ok (.iastore, 1) := by decide +kernel
theorem dX5_moveDown_100 : decode cX5_moveDown 100 = .ok (.return_, 1) := by decide +kernel
set_option maxRecDepth 20000 in
theorem ggX5_advance_X5_held : GoodIn wsX5_advance wsX5_held := goodIn_r _ [6, 7, 8, 9, 10, 11, 12, 13, 14, 15, 16, 17, 18, 19, 20, 21, 22] (by decide +kernel) (by decide +kernel)
set_option maxRecDepth 20000 in
theorem gX5_advance_X5_held : GoodIn wsX5_advance (wsV RX5 58 RX5 yX5_held wsX5_held) := goodIn_app (goodIn_of _ (by decide +kernel)) ggX5_advance_X5_held
theorem dX5_advance_0 : decode cX5_advance 0 = .ok (.aload_n 0, 1) := by decide +kernel
theorem dX5_advance_1 : decode cX5_advance 1 = .ok (.getfield 13, 3) := by decide +kernel
theorem dX5_advance_4 : decode cX5_advance 4 = .ok (.iconst 0, 1) := by decide +kernel
theorem dX5_advance_5 : decode cX5_advance 5 = .ok (.dup2, 1) := by decide +kernel
theorem dX5_advance_6 : decode cX5_advance 6 = .ok (.iaload, 1) := by decide +kernel
theorem dX5_advance_7 : decode cX5_advance 7 = .ok (.iload_n 1, 1) := by decide +kernel
theorem dX5_advance_8 : decode cX5_advance 8 = .ok (.iadd, 1) := by decide +kernel
theorem dX5_advance_9 : decode cX5_advance 9 = .ok (.iastore, 1) := by decide +kernel
theorem dX5_advance_10 : decode cX5_advance 10 = .ok (.aload_n 0, 1) := by decide +kernel
theorem dX5_advance_11 : decode cX5_advance 11 = .ok (.getfield 13, 3) := by decide +kernel
theorem dX5_advance_14 : decode cX5_advance 14 = .ok (.iconst 2, 1) := by decide +kernel
theorem dX5_advance_15 : decode cX5_advance 15 = .ok (.aload_n 0, 1) := by decide +kernel
theorem dX5_advance_16 : decode cX5_advance 16 = .ok (.aload_n 0, 1) := by decide +kernel
theorem dX5_advance_17 : decode cX5_advance 17 = .ok (.getfield 13, 3) := by decide +kernel
theorem dX5_advance_20 : decode cX5_advance 20 = .ok (.iconst 2, 1) := by decide +kernel
theorem dX5_advance_21 : decode cX5_advance 21 = .ok (.iaload, 1) := by decide +kernel
theorem dX5_advance_22 : decode cX5_advance 22 = .ok (.iload_n 2, 1) := by decide +kernel
theorem dX5_advance_23 : decode cX5_advance 23 = .ok (.iadd, 1) := by decide +kernel
theorem dX5_advance_24 : decode cX5_advance 24 = .ok (.aload_n 0, 1) := by decide +kernel
theorem dX5_advance_25 : decode cX5_advance 25 = .ok (.getfield 13, 3) := by decide +kernel
theorem dX5_advance_28 : decode cX5_advance 28 = .ok (.iconst 0, 1) := by decide +kernel
theorem dX5_advance_29 : decode cX5_advance 29 = .ok (.iaload, 1) := by decide +kernel
theorem dX5_advance_30 : decode cX5_advance 30 = .ok (.invokevirtual 58, 3) := by decide +kernel
theorem dX5_advance_33 : decode cX5_advance 33 = .ok (.iastore, 1) := by decide +kernel
theorem dX5_advance_34 : decode cX5_advance 34 = .ok (.return_, 1) := by decide +kernel
set_option maxRecDepth 20000 in
theorem ggX5_held_X4_rounded : GoodIn wsX5_held wsX4_rounded := goodIn_r _ [6, 7, 8, 16] (by decide +kernel) (by decide +kernel)
set_option maxRecDepth 20000 in
theorem gX5_held_X4_rounded : GoodIn wsX5_held (wsV RX5 52 RX4 yX4_rounded wsX4_rounded) := goodIn_app (goodIn_of _ (by decide +kernel)) ggX5_held_X4_rounded
theorem dX5_held_0 : decode cX5_held 0 = .ok (.aload_n 0, 1) := by decide +kernel
theorem dX5_held_1 : decode cX5_held 1 = .ok (.getfield 7, 3) := by decide +kernel
theorem dX5_held_4 : decode cX5_held 4 = .ok (.iload_n 2, 1) := by decide +kernel
theorem dX5_held_5 : decode cX5_held 5 = .ok (.invokevirtual 52, 3) := by decide +kernel
theorem dX5_held_8 : decode cX5_held 8 = .ok (.istore_n 3, 1) := by decide +kernel
theorem dX5_held_9 : decode cX5_held 9 = .ok (.iload_n 1, 1) := by decide +kernel
theorem dX5_held_10 : decode cX5_held 10 = .ok (.iload_n 3, 1) := by decide +kernel
theorem dX5_held_11 : decode cX5_held 11 = .ok (.iconst 2, 1) := by decide +kernel
theorem dX5_held_12 : decode cX5_held 12 = .ok (.iadd, 1) := by decide +kernel
theorem dX5_held_13 : decode cX5_held 13 = .ok (.if_icmp .le 9, 3) := by decide +kernel
theorem dX5_held_16 : decode cX5_held 16 = .ok (.iload_n 3, 1) := by decide +kernel
theorem dX5_held_17 : decode cX5_held 17 = .ok (.iconst 2, 1) := by decide +kernel
theorem dX5_held_18 : decode cX5_held 18 = .ok (.iadd, 1) := by decide +kernel
theorem dX5_held_19 : decode cX5_held 19 = .ok (.goto 4, 3) := by decide +kernel
theorem dX5_held_22 : decode cX5_held 22 = .ok (.iload_n 1, 1) := by decide +kernel
theorem dX5_held_23 : decode cX5_held 23 = .ok (.istore 4, 2) := by decide +kernel
theorem dX5_held_25 : decode cX5_held 25 = .ok (.iload 4, 2) := by decide +kernel
theorem dX5_held_27 : decode cX5_held 27 = .ok (.iload_n 3, 1) := by decide +kernel
theorem dX5_held_28 : decode cX5_held 28 = .ok (.iconst 2, 1) := by decide +kernel
theorem dX5_held_29 : decode cX5_held 29 = .ok (.isub, 1) := by decide +kernel
theorem dX5_held_30 : decode cX5_held 30 = .ok (.if_icmp .ge 9, 3) := by decide +kernel
theorem dX5_held_33 : decode cX5_held 33 = .ok (.iload_n 3, 1) := by decide +kernel
theorem dX5_held_34 : decode cX5_held 34 = .ok (.iconst 2, 1) := by decide +kernel
theorem dX5_held_35 : decode cX5_held 35 = .ok (.isub, 1) := by decide +kernel
theorem dX5_held_36 : decode cX5_held 36 = .ok (.goto 5, 3) := by decide +kernel
theorem dX5_held_39 : decode cX5_held 39 = .ok (.iload 4, 2) := by decide +kernel
theorem dX5_held_41 : decode cX5_held 41 = .ok (.ireturn, 1) := by decide +kernel
set_option maxRecDepth 20000 in
theorem ggX6_init_X1_init : GoodIn wsX6_init wsX1_init := goodIn_r _ [22, 23, 2, 3, 24, 25, 26, 27, 48, 49, 50] (by decide +kernel) (by decide +kernel)
set_option maxRecDepth 20000 in
theorem gX6_init_X1_init : GoodIn wsX6_init (wsX1_init) := ggX6_init_X1_init
set_option maxRecDepth 20000 in
theorem ggX6_init_X5_init : GoodIn wsX6_init wsX5_init := goodIn_r _ [30, 31, 2, 3, 32, 24, 33, 34, 35, 36, 37, 38, 51, 52, 53, 54, 55, 56, 57] (by decide +kernel) (by decide +kernel)
set_option maxRecDepth 20000 in
theorem gX6_init_X5_init : GoodIn wsX6_init (wsX5_init) := ggX6_init_X5_init
theorem dX6_init_0 : decode cX6_init 0 = .ok (.aload_n 0, 1) := by decide +kernel
theorem dX6_init_1 : decode cX6_init 1 = .ok (.invokespecial 3, 3) := by decide +kernel
theorem dX6_init_4 : decode cX6_init 4 = .ok (.aload_n 0, 1) := by decide +kernel
theorem dX6_init_5 : decode cX6_init 5 = .ok (.aload_n 1, 1) := by decide +kernel
theorem dX6_init_6 : decode cX6_init 6 = .ok (.putfield 9, 3) := by decide +kernel
theorem dX6_init_9 : decode cX6_init 9 = .ok (.aload_n 0, 1) := by decide +kernel
theorem dX6_init_10 : decode cX6_init 10 = .ok (.aload_n 2, 1) := by decide +kernel
theorem dX6_init_11 : decode cX6_init 11 = .ok (.putfield 15, 3) := by decide +kernel
theorem dX6_init_14 : decode cX6_init 14 = .ok (.aload_n 0, 1) := by decide +kernel
theorem dX6_init_15 : decode cX6_init 15 = .ok (.aload_n 3, 1) := by decide +kernel
theorem dX6_init_16 : decode cX6_init 16 = .ok (.putfield 19, 3) := by decide +kernel
theorem dX6_init_19 : decode cX6_init 19 = .ok (.aload_n 0, 1) := by decide +kernel
theorem dX6_init_20 : decode cX6_init 20 = .ok (.aload 4, 2) := by decide +kernel
theorem dX6_init_22 : decode cX6_init 22 = .ok (.putfield 23, 3) := by decide +kernel
theorem dX6_init_25 : decode cX6_init 25 = .ok (.aload_n 0, 1) := by decide +kernel
theorem dX6_init_26 : decode cX6_init 26 = .ok (.new 27, 3) := by decide +kernel
theorem dX6_init_29 : decode cX6_init 29 = .ok (.dup, 1) := by decide +kernel
theorem dX6_init_30 : decode cX6_init 30 = .ok (.invokespecial 29, 3) := by decide +kernel
theorem dX6_init_33 : decode cX6_init 33 = .ok (.putfield 30, 3) := by decide +kernel
theorem dX6_init_36 : decode cX6_init 36 = .ok (.aload_n 0, 1) := by decide +kernel
theorem dX6_init_37 : decode cX6_init 37 = .ok (.new 34, 3) := by decide +kernel
theorem dX6_init_40 : decode cX6_init 40 = .ok (.dup, 1) := by decide +kernel
theorem dX6_init_41 : decode cX6_init 41 = .ok (.aload_n 3, 1) := by decide +kernel
theorem dX6_init_42 : decode cX6_init 42 = .ok (.invokespecial 36, 3) := by decide +kernel
theorem dX6_init_45 : decode cX6_init 45 = .ok (.putfield 39, 3) := by decide +kernel
theorem dX6_init_48 : decode cX6_init 48 = .ok (.aload_n 0, 1) := by decide +kernel
theorem dX6_init_49 : decode cX6_init 49 = .ok (.iconst 0, 1) := by decide +kernel
theorem dX6_init_50 : decode cX6_init 50 = .ok (.putfield 43, 3) := by decide +kernel
theorem dX6_init_53 : decode cX6_init 53 = .ok (.aload_n 0, 1) := by decide +kernel
theorem dX6_init_54 : decode cX6_init 54 = .ok (.ldc 47, 2) := by decide +kernel
theorem dX6_init_56 : decode cX6_init 56 = .ok (.putfield 48, 3) := by decide +kernel
theorem dX6_init_59 : decode cX6_init 59 = .ok (.aload_n 0, 1) := by decide +kernel
theorem dX6_init_60 : decode cX6_init 60 = .ok (.ldc 47, 2) := by decide +kernel
theorem dX6_init_62 : decode cX6_init 62 = .ok (.putfield 51, 3) := by decide +kernel
theorem dX6_init_65 : decode cX6_init 65 = .ok (.return_, 1) := by decide +kernel
set_option maxRecDepth 20000 in
theorem ggX6_clear_X4_clear : GoodIn wsX6_clear wsX4_clear := goodIn_r _ [13, 14, 51] (by decide +kernel) (by decide +kernel)
set_option maxRecDepth 20000 in
theorem gX6_clear_X4_clear : GoodIn wsX6_clear (wsV RX6 54 RX4 yX4_clear wsX4_clear) := goodIn_app (goodIn_of _ (by decide +kernel)) ggX6_clear_X4_clear
set_option maxRecDepth 20000 in
theorem ggX6_clear_X3_clear : GoodIn wsX6_clear wsX3_clear := goodIn_r _ [19, 20, 21, 52, 53, 54, 55, 56, 57, 58] (by decide +kernel) (by decide +kernel)
set_option maxRecDepth 20000 in
theorem gX6_clear_X3_clear : GoodIn wsX6_clear (wsV RX6 59 RX3 yX3_clear wsX3_clear) := goodIn_app (goodIn_of _ (by decide +kernel)) ggX6_clear_X3_clear
set_option maxRecDepth 20000 in
theorem ggX6_clear_X1_clear : GoodIn wsX6_clear wsX1_clear := goodIn_r _ [26, 27, 59, 60, 61] (by decide +kernel) (by decide +kernel)
set_option maxRecDepth 20000 in
theorem gX6_clear_X1_clear : GoodIn wsX6_clear (wsV RX6 62 RX1 yX1_clear wsX1_clear) := goodIn_app (goodIn_of _ (by decide +kernel)) ggX6_clear_X1_clear
set_option maxRecDepth 20000 in
theorem ggX6_clear_X5_clear : GoodIn wsX6_clear wsX5_clear := goodIn_r _ [32, 33, 34, 35, 36, 31, 37, 38, 39, 40, 41, 62, 63, 64, 65, 66, 67, 68] (by decide +kernel) (by decide +kernel)
set_option maxRecDepth 20000 in
theorem gX6_clear_X5_clear : GoodIn wsX6_clear (wsV RX6 63 RX5 yX5_clear wsX5_clear) := goodIn_app (goodIn_of _ (by decide +kernel)) ggX6_clear_X5_clear
theorem dX6_clear_0 : decode cX6_clear 0 = .ok (.aload_n 0, 1) := by decide +kernel
theorem dX6_clear_1 : decode cX6_clear 1 = .ok (.getfield 19, 3) := by decide +kernel
theorem dX6_clear_4 : decode cX6_clear 4 = .ok (.invokevirtual 54, 3) := by decide +kernel
theorem dX6_clear_7 : decode cX6_clear 7 = .ok (.aload_n 0, 1) := by decide +kernel
theorem dX6_clear_8 : decode cX6_clear 8 = .ok (.getfield 23, 3) := by decide +kernel
theorem dX6_clear_11 : decode cX6_clear 11 = .ok (.invokevirtual 59, 3) := by decide +kernel
theorem dX6_clear_14 : decode cX6_clear 14 = .ok (.aload_n 0, 1) := by decide +kernel
theorem dX6_clear_15 : decode cX6_clear 15 = .ok (.getfield 30, 3) := by decide +kernel
theorem dX6_clear_18 : decode cX6_clear 18 = .ok (.invokevirtual 62, 3) := by decide +kernel
theorem dX6_clear_21 : decode cX6_clear 21 = .ok (.aload_n 0, 1) := by decide +kernel
theorem dX6_clear_22 : decode cX6_clear 22 = .ok (.getfield 39, 3) := by decide +kernel
theorem dX6_clear_25 : decode cX6_clear 25 = .ok (.invokevirtual 63, 3) := by decide +kernel
theorem dX6_clear_28 : decode cX6_clear 28 = .ok (.aload_n 0, 1) := by decide +kernel
theorem dX6_clear_29 : decode cX6_clear 29 = .ok (.iconst 0, 1) := by decide +kernel
theorem dX6_clear_30 : decode cX6_clear 30 = .ok (.putfield 43, 3) := by decide +kernel
theorem dX6_clear_33 : decode cX6_clear 33 = .ok (.aload_n 0, 1) := by decide +kernel
theorem dX6_clear_34 : decode cX6_clear 34 = .ok (.ldc 47, 2) := by decide +kernel
theorem dX6_clear_36 : decode cX6_clear 36 = .ok (.putfield 48, 3) := by decide +kernel
theorem dX6_clear_39 : decode cX6_clear 39 = .ok (.aload_n 0, 1) := by decide +kernel
theorem dX6_clear_40 : decode cX6_clear 40 = .ok (.ldc 47, 2) := by decide +kernel
theorem dX6_clear_42 : decode cX6_clear 42 = .ok (.putfield 51, 3) := by decide +kernel
theorem dX6_clear_45 : decode cX6_clear 45 = .ok (.return_, 1) := by decide +kernel
set_option maxRecDepth 20000 in
theorem ggX6_firstWrong_X6_clear : GoodIn wsX6_firstWrong wsX6_clear := goodIn_r _ [7, 8, 9, 10, 11, 2, 12, 13, 14, 15, 16, 17, 18, 19, 20, 21, 22, 23, 24, 25, 26, 27, 28, 29, 30, 31, 32, 33, 34, 35, 36, 37, 38, 39, 40, 41, 42, 43, 44, 45, 46, 47, 264, 265, 266, 267, 268, 269, 270, 271, 272, 273, 274, 275, 276, 277, 278, 279, 280, 281, 282, 283, 284, 285, 286, 287, 288, 289, 290] (by decide +kernel) (by decide +kernel)
set_option maxRecDepth 20000 in
theorem gX6_firstWrong_X6_clear : GoodIn wsX6_firstWrong (wsV RX6 64 RX6 yX6_clear wsX6_clear) := goodIn_app (goodIn_of _ (by decide +kernel)) ggX6_firstWrong_X6_clear
set_option maxRecDepth 20000 in
theorem ggX6_firstWrong_X0_count : GoodIn wsX6_firstWrong wsX0_count := goodIn_r _ [52, 53, 291, 292] (by decide +kernel) (by decide +kernel)
set_option maxRecDepth 20000 in
theorem gX6_firstWrong_X0_count : GoodIn wsX6_firstWrong (wsV RX6 67 RX0 yX0_count wsX0_count) := goodIn_app (goodIn_of _ (by decide +kernel)) ggX6_firstWrong_X0_count
set_option maxRecDepth 20000 in
theorem ggX6_firstWrong_X0_commandLength : GoodIn wsX6_firstWrong wsX0_commandLength := goodIn_r _ [57, 53, 58, 59, 60, 51, 61, 62, 63, 64, 65, 66, 67, 291, 292] (by decide +kernel) (by decide +kernel)
set_option maxRecDepth 20000 in
theorem gX6_firstWrong_X0_commandLength : GoodIn wsX6_firstWrong (wsV RX6 71 RX0 yX0_commandLength wsX0_commandLength) := goodIn_app (goodIn_of _ (by decide +kernel)) ggX6_firstWrong_X0_commandLength
set_option maxRecDepth 20000 in
theorem ggX6_firstWrong_X6_obeyInPage : GoodIn wsX6_firstWrong wsX6_obeyInPage := goodIn_r _ [71, 1, 11, 72, 59, 60, 51, 61, 53, 62, 73, 74, 75, 76, 58, 77, 78, 79, 6, 80, 9, 81, 8, 82, 83, 84, 37, 85, 46, 86, 87, 88, 89, 90, 91, 92, 24, 93, 26, 27, 94, 95, 96, 97, 98, 99, 44, 100, 101, 102, 103, 104, 105, 106, 107, 108, 109, 110, 111, 18, 112, 20, 113, 114, 115, 116, 117, 118, 119, 120, 121, 122, 123, 124, 125, 126, 127, 128, 129, 130, 131, 132, 133, 134, 135, 136, 137, 138, 139, 140, 2, 141, 142, 143, 144, 45, 145, 146, 147, 148, 149, 150, 151, 152, 153, 39, 154, 155, 156, 157, 158, 159, 160, 161, 162, 163, 164, 165, 10, 166, 167, 168, 31, 169, 33, 170, 171, 172, 173, 174, 175, 176, 177, 178, 179, 180, 181, 182, 183, 184, 185, 186, 187, 188, 189, 190, 191, 192, 47, 193, 194, 195, 196, 197, 64, 65, 66, 67, 198, 199, 200, 201, 202, 203, 204, 205, 206, 207, 208, 209, 210, 264, 265, 266, 267, 268, 269, 270, 271, 272, 291, 292, 284, 285, 286, 287, 288, 289, 290, 274, 275, 276, 277, 278, 279, 280, 293, 273, 281, 282, 283] (by decide +kernel) (by decide +kernel)
set_option maxRecDepth 20000 in
theorem gX6_firstWrong_X6_obeyInPage : GoodIn wsX6_firstWrong (wsV RX6 75 RX6 yX6_obeyInPage wsX6_obeyInPage) := goodIn_app (goodIn_of _ (by decide +kernel)) ggX6_firstWrong_X6_obeyInPage
set_option maxRecDepth 20000 in
theorem ggX6_firstWrong_X6_obeyOutside : GoodIn wsX6_firstWrong wsX6_obeyOutside := goodIn_r _ [214, 1, 2, 72, 59, 60, 51, 61, 53, 62, 215, 216, 217, 6, 218, 8, 73, 74, 75, 76, 58, 219, 220, 221, 18, 222, 223, 20, 162, 163, 164, 165, 10, 166, 167, 168, 31, 169, 33, 170, 171, 172, 173, 174, 175, 224, 225, 226, 227, 14, 228, 229, 230, 231, 232, 233, 234, 235, 236, 237, 238, 239, 13, 11, 9, 240, 41, 42, 37, 43, 44, 45, 46, 47, 128, 129, 130, 131, 132, 241, 242, 243, 24, 244, 26, 245, 246, 247, 27, 95, 248, 249, 250, 251, 252, 253, 254, 255, 256, 257, 258, 259, 39, 260, 261, 262, 263, 264, 265, 266, 267, 268, 269, 270, 271, 272, 291, 292, 273, 281, 282, 283, 284, 285, 286, 287, 288, 289, 290, 274, 275, 276, 277, 278, 279, 280] (by decide +kernel) (by decide +kernel)
set_option maxRecDepth 20000 in
theorem gX6_firstWrong_X6_obeyOutside : GoodIn wsX6_firstWrong (wsV RX6 79 RX6 yX6_obeyOutside wsX6_obeyOutside) := goodIn_app (goodIn_of _ (by decide +kernel)) ggX6_firstWrong_X6_obeyOutside
theorem dX6_firstWrong_0 : decode cX6_firstWrong 0 = .ok (.aload_n 0, 1) := by decide +kernel
theorem dX6_firstWrong_1 : decode cX6_firstWrong 1 = .ok (.invokevirtual 64, 3) := by decide +kernel
theorem dX6_firstWrong_4 : decode cX6_firstWrong 4 = .ok (.iconst 0, 1) := by decide +kernel
theorem dX6_firstWrong_5 : decode cX6_firstWrong 5 = .ok (.istore_n 1, 1) := by decide +kernel
theorem dX6_firstWrong_6 : decode cX6_firstWrong 6 = .ok (.iconst 0, 1) := by decide +kernel
theorem dX6_firstWrong_7 : decode cX6_firstWrong 7 = .ok (.istore_n 2, 1) := by decide +kernel
theorem dX6_firstWrong_8 : decode cX6_firstWrong 8 = .ok (.iload_n 2, 1) := by decide +kernel
theorem dX6_firstWrong_9 : decode cX6_firstWrong 9 = .ok (.sipush 600, 3) := by decide +kernel
theorem dX6_firstWrong_12 : decode cX6_firstWrong 12 = .ok (.if_icmp .ge 77, 3) := by decide +kernel
theorem dX6_firstWrong_15 : decode cX6_firstWrong 15 = .ok (.iload_n 1, 1) := by decide +kernel
theorem dX6_firstWrong_16 : decode cX6_firstWrong 16 = .ok (.aload_n 0, 1) := by decide +kernel
theorem dX6_firstWrong_17 : decode cX6_firstWrong 17 = .ok (.getfield 9, 3) := by decide +kernel
theorem dX6_firstWrong_20 : decode cX6_firstWrong 20 = .ok (.invokevirtual 67, 3) := by decide +kernel
theorem dX6_firstWrong_23 : decode cX6_firstWrong 23 = .ok (.if_icmp .ge 66, 3) := by decide +kernel
theorem dX6_firstWrong_26 : decode cX6_firstWrong 26 = .ok (.aload_n 0, 1) := by decide +kernel
theorem dX6_firstWrong_27 : decode cX6_firstWrong 27 = .ok (.getfield 43, 3) := by decide +kernel
theorem dX6_firstWrong_30 : decode cX6_firstWrong 30 = .ok (.iconst 4, 1) := by decide +kernel
theorem dX6_firstWrong_31 : decode cX6_firstWrong 31 = .ok (.if_icmp .eq 58, 3) := by decide +kernel
theorem dX6_firstWrong_34 : decode cX6_firstWrong 34 = .ok (.aload_n 0, 1) := by decide +kernel
theorem dX6_firstWrong_35 : decode cX6_firstWrong 35 = .ok (.getfield 9, 3) := by decide +kernel
theorem dX6_firstWrong_38 : decode cX6_firstWrong 38 = .ok (.iload_n 1, 1) := by decide +kernel
theorem dX6_firstWrong_39 : decode cX6_firstWrong 39 = .ok (.invokevirtual 71, 3) := by decide +kernel
theorem dX6_firstWrong_42 : decode cX6_firstWrong 42 = .ok (.istore_n 3, 1) := by decide +kernel
theorem dX6_firstWrong_43 : decode cX6_firstWrong 43 = .ok (.iload_n 3, 1) := by decide +kernel
theorem dX6_firstWrong_44 : decode cX6_firstWrong 44 = .ok (.ifCond .ne 5, 3) := by decide +kernel
theorem dX6_firstWrong_47 : decode cX6_firstWrong 47 = .ok (.iload_n 1, 1) := by decide +kernel
theorem dX6_firstWrong_48 : decode cX6_firstWrong 48 = .ok (.ireturn, 1) := by decide +kernel
theorem dX6_firstWrong_49 : decode cX6_firstWrong 49 = .ok (.aload_n 0, 1) := by decide +kernel
theorem dX6_firstWrong_50 : decode cX6_firstWrong 50 = .ok (.getfield 43, 3) := by decide +kernel
theorem dX6_firstWrong_53 : decode cX6_firstWrong 53 = .ok (.iconst 2, 1) := by decide +kernel
theorem dX6_firstWrong_54 : decode cX6_firstWrong 54 = .ok (.if_icmp .ne 11, 3) := by decide +kernel
theorem dX6_firstWrong_57 : decode cX6_firstWrong 57 = .ok (.aload_n 0, 1) := by decide +kernel
theorem dX6_firstWrong_58 : decode cX6_firstWrong 58 = .ok (.iload_n 1, 1) := by decide +kernel
theorem dX6_firstWrong_59 : decode cX6_firstWrong 59 = .ok (.invokevirtual 75, 3) := by decide +kernel
theorem dX6_firstWrong_62 : decode cX6_firstWrong 62 = .ok (.goto 8, 3) := by decide +kernel
theorem dX6_firstWrong_65 : decode cX6_firstWrong 65 = .ok (.aload_n 0, 1) := by decide +kernel
theorem dX6_firstWrong_66 : decode cX6_firstWrong 66 = .ok (.iload_n 1, 1) := by decide +kernel
theorem dX6_firstWrong_67 : decode cX6_firstWrong 67 = .ok (.invokevirtual 79, 3) := by decide +kernel
theorem dX6_firstWrong_70 : decode cX6_firstWrong 70 = .ok (.istore 4, 2) := by decide +kernel
theorem dX6_firstWrong_72 : decode cX6_firstWrong 72 = .ok (.iload 4, 2) := by decide +kernel
theorem dX6_firstWrong_74 : decode cX6_firstWrong 74 = .ok (.ifCond .ne 5, 3) := by decide +kernel
theorem dX6_firstWrong_77 : decode cX6_firstWrong 77 = .ok (.iload_n 1, 1) := by decide +kernel
theorem dX6_firstWrong_78 : decode cX6_firstWrong 78 = .ok (.ireturn, 1) := by decide +kernel
theorem dX6_firstWrong_79 : decode cX6_firstWrong 79 = .ok (.iload_n 1, 1) := by decide +kernel
theorem dX6_firstWrong_80 : decode cX6_firstWrong 80 = .ok (.iload_n 3, 1) := by decide +kernel
theorem dX6_firstWrong_81 : decode cX6_firstWrong 81 = .ok (.iadd, 1) := by decide +kernel
theorem dX6_firstWrong_82 : decode cX6_firstWrong 82 = .ok (.istore_n 1, 1) := by decide +kernel
theorem dX6_firstWrong_83 : decode cX6_firstWrong 83 = .ok (.iinc 2 1, 3) := by decide +kernel
theorem dX6_firstWrong_86 : decode cX6_firstWrong 86 = .ok (.goto (-78), 3) := by decide +kernel
theorem dX6_firstWrong_89 : decode cX6_firstWrong 89 = .ok (.aload_n 0, 1) := by decide +kernel
theorem dX6_firstWrong_90 : decode cX6_firstWrong 90 = .ok (.getfield 43, 3) := by decide +kernel
theorem dX6_firstWrong_93 : decode cX6_firstWrong 93 = .ok (.iconst 4, 1) := by decide +kernel
theorem dX6_firstWrong_94 : decode cX6_firstWrong 94 = .ok (.if_icmp .ne 7, 3) := by decide +kernel
theorem dX6_firstWrong_97 : decode cX6_firstWrong 97 = .ok (.iconst (-1), 1) := by decide +kernel
theorem dX6_firstWrong_98 : decode cX6_firstWrong 98 = .ok (.goto 10, 3) := by decide +kernel
theorem dX6_firstWrong_101 : decode cX6_firstWrong 101 = .ok (.aload_n 0, 1) := by decide +kernel
theorem dX6_firstWrong_102 : decode cX6_firstWrong 102 = .ok (.getfield 9, 3) := by decide +kernel
theorem dX6_firstWrong_105 : decode cX6_firstWrong 105 = .ok (.invokevirtual 67, 3) := by decide +kernel
theorem dX6_firstWrong_108 : decode cX6_firstWrong 108 = .ok (.ireturn, 1) := by decide +kernel
set_option maxRecDepth 20000 in
theorem ggX6_obeyOutside_X0_at : GoodIn wsX6_obeyOutside wsX0_at := goodIn_r _ [7, 8, 9, 116, 117] (by decide +kernel) (by decide +kernel)
set_option maxRecDepth 20000 in
theorem gX6_obeyOutside_X0_at : GoodIn wsX6_obeyOutside (wsV RX6 82 RX0 yX0_at wsX0_at) := goodIn_app (goodIn_of _ (by decide +kernel)) ggX6_obeyOutside_X0_at
set_option maxRecDepth 20000 in
theorem ggX6_obeyOutside_X6_start : GoodIn wsX6_obeyOutside wsX6_start := goodIn_r _ [14, 2, 1, 15, 16, 17, 18, 6, 19, 20, 4, 5, 7, 8, 9, 21, 22, 23, 24, 25, 26, 27, 107, 108, 109, 110, 111, 112, 113, 114, 115, 116, 117, 118] (by decide +kernel) (by decide +kernel)
set_option maxRecDepth 20000 in
theorem gX6_obeyOutside_X6_start : GoodIn wsX6_obeyOutside (wsV RX6 87 RX6 yX6_start wsX6_start) := goodIn_app (goodIn_of _ (by decide +kernel)) ggX6_obeyOutside_X6_start
set_option maxRecDepth 20000 in
theorem ggX6_obeyOutside_X6_define : GoodIn wsX6_obeyOutside wsX6_define := goodIn_r _ [31, 1, 2, 32, 16, 17, 18, 6, 19, 20, 4, 5, 7, 8, 9, 33, 34, 35, 36, 37, 38, 39, 40, 41, 42, 43, 44, 107, 108, 109, 110, 111, 112, 113, 114, 115, 116, 117, 119, 120, 121] (by decide +kernel) (by decide +kernel)
set_option maxRecDepth 20000 in
theorem gX6_obeyOutside_X6_define : GoodIn wsX6_obeyOutside (wsV RX6 90 RX6 yX6_define wsX6_define) := goodIn_app (goodIn_of _ (by decide +kernel)) ggX6_obeyOutside_X6_define
set_option maxRecDepth 20000 in
theorem ggX6_obeyOutside_X6_close : GoodIn wsX6_obeyOutside wsX6_close := goodIn_r _ [48, 2, 1, 49, 32, 16, 17, 18, 6, 19, 20, 4, 5, 7, 8, 9, 50, 51, 52, 36, 53, 38, 54, 55, 56, 57, 107, 108, 109, 110, 111, 112, 113, 114, 115, 116, 117, 119, 120, 121] (by decide +kernel) (by decide +kernel)
set_option maxRecDepth 20000 in
theorem gX6_obeyOutside_X6_close : GoodIn wsX6_obeyOutside (wsV RX6 93 RX6 yX6_close wsX6_close) := goodIn_app (goodIn_of _ (by decide +kernel)) ggX6_obeyOutside_X6_close
set_option maxRecDepth 20000 in
theorem ggX6_obeyOutside_X6_begin : GoodIn wsX6_obeyOutside wsX6_begin := goodIn_r _ [61, 1, 62, 63, 2, 64, 16, 17, 18, 6, 19, 20, 4, 5, 7, 8, 9, 65, 66, 67, 68, 69, 70, 71, 72, 73, 74, 75, 76, 77, 78, 79, 80, 81, 82, 83, 84, 85, 86, 87, 88, 89, 107, 108, 109, 110, 111, 112, 113, 114, 115, 116, 117, 122, 123, 124, 125, 126, 127, 128, 129, 130, 131, 132, 133, 134, 135] (by decide +kernel) (by decide +kernel)
set_option maxRecDepth 20000 in
theorem gX6_obeyOutside_X6_begin : GoodIn wsX6_obeyOutside (wsV RX6 96 RX6 yX6_begin wsX6_begin) := goodIn_app (goodIn_of _ (by decide +kernel)) ggX6_obeyOutside_X6_begin
set_option maxRecDepth 20000 in
theorem ggX6_obeyOutside_X6_last : GoodIn wsX6_obeyOutside wsX6_last := goodIn_r _ [93, 49, 2, 1, 62, 63, 64, 16, 17, 18, 6, 19, 20, 4, 5, 7, 8, 9, 94, 95, 96, 13, 97, 3, 98, 99, 100, 68, 101, 102, 103, 104, 105, 82, 106, 84, 107, 108, 109, 110, 111, 112, 113, 114, 115, 116, 117, 122, 123, 124, 125, 126, 127, 128, 129, 130, 131, 132, 133, 134, 135] (by decide +kernel) (by decide +kernel)
set_option maxRecDepth 20000 in
theorem gX6_obeyOutside_X6_last : GoodIn wsX6_obeyOutside (wsV RX6 99 RX6 yX6_last wsX6_last) := goodIn_app (goodIn_of _ (by decide +kernel)) ggX6_obeyOutside_X6_last
theorem dX6_obeyOutside_0 : decode cX6_obeyOutside 0 = .ok (.aload_n 0, 1) := by decide +kernel
theorem dX6_obeyOutside_1 : decode cX6_obeyOutside 1 = .ok (.getfield 9, 3) := by decide +kernel
theorem dX6_obeyOutside_4 : decode cX6_obeyOutside 4 = .ok (.iload_n 1, 1) := by decide +kernel
theorem dX6_obeyOutside_5 : decode cX6_obeyOutside 5 = .ok (.invokevirtual 82, 3) := by decide +kernel
theorem dX6_obeyOutside_8 : decode cX6_obeyOutside 8 = .ok (.istore_n 2, 1) := by decide +kernel
theorem dX6_obeyOutside_9 : decode cX6_obeyOutside 9 = .ok (.aload_n 0, 1) := by decide +kernel
theorem dX6_obeyOutside_10 : decode cX6_obeyOutside 10 = .ok (.getfield 43, 3) := by decide +kernel
theorem dX6_obeyOutside_13 : decode cX6_obeyOutside 13 = .ok (.ifCond .ne 24, 3) := by decide +kernel
theorem dX6_obeyOutside_16 : decode cX6_obeyOutside 16 = .ok (.iload_n 2, 1) := by decide +kernel
theorem dX6_obeyOutside_17 : decode cX6_obeyOutside 17 = .ok (.sipush 167, 3) := by decide +kernel
theorem dX6_obeyOutside_20 : decode cX6_obeyOutside 20 = .ok (.if_icmp .ne 15, 3) := by decide +kernel
theorem dX6_obeyOutside_23 : decode cX6_obeyOutside 23 = .ok (.aload_n 0, 1) := by decide +kernel
theorem dX6_obeyOutside_24 : decode cX6_obeyOutside 24 = .ok (.iload_n 1, 1) := by decide +kernel
theorem dX6_obeyOutside_25 : decode cX6_obeyOutside 25 = .ok (.invokevirtual 87, 3) := by decide +kernel
theorem dX6_obeyOutside_28 : decode cX6_obeyOutside 28 = .ok (.ifCond .eq 7, 3) := by decide +kernel
theorem dX6_obeyOutside_31 : decode cX6_obeyOutside 31 = .ok (.iconst 1, 1) := by decide +kernel
theorem dX6_obeyOutside_32 : decode cX6_obeyOutside 32 = .ok (.goto 4, 3) := by decide +kernel
theorem dX6_obeyOutside_35 : decode cX6_obeyOutside 35 = .ok (.iconst 0, 1) := by decide +kernel
theorem dX6_obeyOutside_36 : decode cX6_obeyOutside 36 = .ok (.ireturn, 1) := by decide +kernel
theorem dX6_obeyOutside_37 : decode cX6_obeyOutside 37 = .ok (.iload_n 2, 1) := by decide +kernel
theorem dX6_obeyOutside_38 : decode cX6_obeyOutside 38 = .ok (.sipush 131, 3) := by decide +kernel
theorem dX6_obeyOutside_41 : decode cX6_obeyOutside 41 = .ok (.if_icmp .ne 5, 3) := by decide +kernel
theorem dX6_obeyOutside_44 : decode cX6_obeyOutside 44 = .ok (.iconst 1, 1) := by decide +kernel
theorem dX6_obeyOutside_45 : decode cX6_obeyOutside 45 = .ok (.ireturn, 1) := by decide +kernel
theorem dX6_obeyOutside_46 : decode cX6_obeyOutside 46 = .ok (.iload_n 2, 1) := by decide +kernel
theorem dX6_obeyOutside_47 : decode cX6_obeyOutside 47 = .ok (.sipush 166, 3) := by decide +kernel
theorem dX6_obeyOutside_50 : decode cX6_obeyOutside 50 = .ok (.if_icmp .ne 9, 3) := by decide +kernel
theorem dX6_obeyOutside_53 : decode cX6_obeyOutside 53 = .ok (.aload_n 0, 1) := by decide +kernel
theorem dX6_obeyOutside_54 : decode cX6_obeyOutside 54 = .ok (.iload_n 1, 1) := by decide +kernel
theorem dX6_obeyOutside_55 : decode cX6_obeyOutside 55 = .ok (.invokevirtual 90, 3) := by decide +kernel
theorem dX6_obeyOutside_58 : decode cX6_obeyOutside 58 = .ok (.ireturn, 1) := by decide +kernel
theorem dX6_obeyOutside_59 : decode cX6_obeyOutside 59 = .ok (.aload_n 0, 1) := by decide +kernel
theorem dX6_obeyOutside_60 : decode cX6_obeyOutside 60 = .ok (.getfield 43, 3) := by decide +kernel
theorem dX6_obeyOutside_63 : decode cX6_obeyOutside 63 = .ok (.iconst 3, 1) := by decide +kernel
theorem dX6_obeyOutside_64 : decode cX6_obeyOutside 64 = .ok (.if_icmp .ne 24, 3) := by decide +kernel
theorem dX6_obeyOutside_67 : decode cX6_obeyOutside 67 = .ok (.iload_n 2, 1) := by decide +kernel
theorem dX6_obeyOutside_68 : decode cX6_obeyOutside 68 = .ok (.sipush 169, 3) := by decide +kernel
theorem dX6_obeyOutside_71 : decode cX6_obeyOutside 71 = .ok (.if_icmp .ne 15, 3) := by decide +kernel
theorem dX6_obeyOutside_74 : decode cX6_obeyOutside 74 = .ok (.aload_n 0, 1) := by decide +kernel
theorem dX6_obeyOutside_75 : decode cX6_obeyOutside 75 = .ok (.iload_n 1, 1) := by decide +kernel
theorem dX6_obeyOutside_76 : decode cX6_obeyOutside 76 = .ok (.invokevirtual 93, 3) := by decide +kernel
theorem dX6_obeyOutside_79 : decode cX6_obeyOutside 79 = .ok (.ifCond .eq 7, 3) := by decide +kernel
theorem dX6_obeyOutside_82 : decode cX6_obeyOutside 82 = .ok (.iconst 1, 1) := by decide +kernel
theorem dX6_obeyOutside_83 : decode cX6_obeyOutside 83 = .ok (.goto 4, 3) := by decide +kernel
theorem dX6_obeyOutside_86 : decode cX6_obeyOutside 86 = .ok (.iconst 0, 1) := by decide +kernel
theorem dX6_obeyOutside_87 : decode cX6_obeyOutside 87 = .ok (.ireturn, 1) := by decide +kernel
theorem dX6_obeyOutside_88 : decode cX6_obeyOutside 88 = .ok (.iload_n 2, 1) := by decide +kernel
theorem dX6_obeyOutside_89 : decode cX6_obeyOutside 89 = .ok (.sipush 132, 3) := by decide +kernel
theorem dX6_obeyOutside_92 : decode cX6_obeyOutside 92 = .ok (.if_icmp .ne 11, 3) := by decide +kernel
theorem dX6_obeyOutside_95 : decode cX6_obeyOutside 95 = .ok (.aload_n 0, 1) := by decide +kernel
theorem dX6_obeyOutside_96 : decode cX6_obeyOutside 96 = .ok (.iload_n 1, 1) := by decide +kernel
theorem dX6_obeyOutside_97 : decode cX6_obeyOutside 97 = .ok (.invokevirtual 96, 3) := by decide +kernel
theorem dX6_obeyOutside_100 : decode cX6_obeyOutside 100 = .ok (.goto 23, 3) := by decide +kernel
theorem dX6_obeyOutside_103 : decode cX6_obeyOutside 103 = .ok (.iload_n 2, 1) := by decide +kernel
theorem dX6_obeyOutside_104 : decode cX6_obeyOutside 104 = .ok (.sipush 168, 3) := by decide +kernel
theorem dX6_obeyOutside_107 : decode cX6_obeyOutside 107 = .ok (.if_icmp .ne 15, 3) := by decide +kernel
theorem dX6_obeyOutside_110 : decode cX6_obeyOutside 110 = .ok (.aload_n 0, 1) := by decide +kernel
theorem dX6_obeyOutside_111 : decode cX6_obeyOutside 111 = .ok (.iload_n 1, 1) := by decide +kernel
theorem dX6_obeyOutside_112 : decode cX6_obeyOutside 112 = .ok (.invokevirtual 99, 3) := by decide +kernel
theorem dX6_obeyOutside_115 : decode cX6_obeyOutside 115 = .ok (.ifCond .eq 7, 3) := by decide +kernel
theorem dX6_obeyOutside_118 : decode cX6_obeyOutside 118 = .ok (.iconst 1, 1) := by decide +kernel
theorem dX6_obeyOutside_119 : decode cX6_obeyOutside 119 = .ok (.goto 4, 3) := by decide +kernel
theorem dX6_obeyOutside_122 : decode cX6_obeyOutside 122 = .ok (.iconst 0, 1) := by decide +kernel
theorem dX6_obeyOutside_123 : decode cX6_obeyOutside 123 = .ok (.ireturn, 1) := by decide +kernel
set_option maxRecDepth 20000 in
theorem ggX6_obeyInPage_X0_at : GoodIn wsX6_obeyInPage wsX0_at := goodIn_r _ [7, 8, 9, 180, 181] (by decide +kernel) (by decide +kernel)
set_option maxRecDepth 20000 in
theorem gX6_obeyInPage_X0_at : GoodIn wsX6_obeyInPage (wsV RX6 82 RX0 yX0_at wsX0_at) := goodIn_app (goodIn_of _ (by decide +kernel)) ggX6_obeyInPage_X0_at
set_option maxRecDepth 20000 in
theorem ggX6_obeyInPage_X0_number : GoodIn wsX6_obeyInPage wsX0_number := goodIn_r _ [13, 14, 4, 5, 6, 7, 8, 9, 180, 181] (by decide +kernel) (by decide +kernel)
