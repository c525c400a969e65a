theorem dX9_movesBehind_60 : decode cX9_movesBehind 60 = .ok (.sipush 150, 3) := by decide +kernel
theorem dX9_movesBehind_63 : decode cX9_movesBehind 63 = .ok (.isub, 1) := by decide +kernel
theorem dX9_movesBehind_64 : decode cX9_movesBehind 64 = .ok (.goto 8, 3) := by decide +kernel
theorem dX9_movesBehind_67 : decode cX9_movesBehind 67 = .ok (.iload_n 0, 1) := by decide +kernel
theorem dX9_movesBehind_68 : decode cX9_movesBehind 68 = .ok (.sipush 154, 3) := by decide +kernel
theorem dX9_movesBehind_71 : decode cX9_movesBehind 71 = .ok (.isub, 1) := by decide +kernel
theorem dX9_movesBehind_72 : decode cX9_movesBehind 72 = .ok (.ireturn, 1) := by decide +kernel
theorem dX9_rounded_0 : decode cX9_rounded 0 = .ok (.aload_n 0, 1) := by decide +kernel
theorem dX9_rounded_1 : decode cX9_rounded 1 = .ok (.getfield 73, 3) := by decide +kernel
theorem dX9_rounded_4 : decode cX9_rounded 4 = .ok (.iload_n 1, 1) := by decide +kernel
theorem dX9_rounded_5 : decode cX9_rounded 5 = .ok (.i2d, 1) := by decide +kernel
theorem dX9_rounded_6 : decode cX9_rounded 6 = .ok (.dmul, 1) := by decide +kernel
theorem dX9_rounded_7 : decode cX9_rounded 7 = .ok (.dstore_n 2, 1) := by decide +kernel
theorem dX9_rounded_8 : decode cX9_rounded 8 = .ok (.dload_n 2, 1) := by decide +kernel
theorem dX9_rounded_9 : decode cX9_rounded 9 = .ok (.dconst 0, 1) := by decide +kernel
theorem dX9_rounded_10 : decode cX9_rounded 10 = .ok (.dcmp .g, 1) := by decide +kernel
theorem dX9_rounded_11 : decode cX9_rounded 11 = .ok (.ifCond .ge 13, 3) := by decide +kernel
theorem dX9_rounded_14 : decode cX9_rounded 14 = .ok (.ldc2_w 77, 3) := by decide +kernel
theorem dX9_rounded_17 : decode cX9_rounded 17 = .ok (.dload_n 2, 1) := by decide +kernel
theorem dX9_rounded_18 : decode cX9_rounded 18 = .ok (.dsub, 1) := by decide +kernel
theorem dX9_rounded_19 : decode cX9_rounded 19 = .ok (.d2i, 1) := by decide +kernel
theorem dX9_rounded_20 : decode cX9_rounded 20 = .ok (.ineg, 1) := by decide +kernel
theorem dX9_rounded_21 : decode cX9_rounded 21 = .ok (.goto 9, 3) := by decide +kernel
theorem dX9_rounded_24 : decode cX9_rounded 24 = .ok (.dload_n 2, 1) := by decide +kernel
theorem dX9_rounded_25 : decode cX9_rounded 25 = .ok (.ldc2_w 77, 3) := by decide +kernel
theorem dX9_rounded_28 : decode cX9_rounded 28 = .ok (.dadd, 1) := by decide +kernel
theorem dX9_rounded_29 : decode cX9_rounded 29 = .ok (.d2i, 1) := by decide +kernel
theorem dX9_rounded_30 : decode cX9_rounded 30 = .ok (.ireturn, 1) := by decide +kernel
theorem dX9_upwards_0 : decode cX9_upwards 0 = .ok (.aload_n 0, 1) := by decide +kernel
theorem dX9_upwards_1 : decode cX9_upwards 1 = .ok (.getfield 73, 3) := by decide +kernel
theorem dX9_upwards_4 : decode cX9_upwards 4 = .ok (.iload_n 1, 1) := by decide +kernel
theorem dX9_upwards_5 : decode cX9_upwards 5 = .ok (.i2d, 1) := by decide +kernel
theorem dX9_upwards_6 : decode cX9_upwards 6 = .ok (.dmul, 1) := by decide +kernel
theorem dX9_upwards_7 : decode cX9_upwards 7 = .ok (.dstore_n 2, 1) := by decide +kernel
theorem dX9_upwards_8 : decode cX9_upwards 8 = .ok (.dload_n 2, 1) := by decide +kernel
theorem dX9_upwards_9 : decode cX9_upwards 9 = .ok (.d2i, 1) := by decide +kernel
theorem dX9_upwards_10 : decode cX9_upwards 10 = .ok (.istore 4, 2) := by decide +kernel
theorem dX9_upwards_12 : decode cX9_upwards 12 = .ok (.iload 4, 2) := by decide +kernel
theorem dX9_upwards_14 : decode cX9_upwards 14 = .ok (.i2d, 1) := by decide +kernel
theorem dX9_upwards_15 : decode cX9_upwards 15 = .ok (.dload_n 2, 1) := by decide +kernel
theorem dX9_upwards_16 : decode cX9_upwards 16 = .ok (.dcmp .g, 1) := by decide +kernel
theorem dX9_upwards_17 : decode cX9_upwards 17 = .ok (.ifCond .ge 10, 3) := by decide +kernel
theorem dX9_upwards_20 : decode cX9_upwards 20 = .ok (.iload 4, 2) := by decide +kernel
theorem dX9_upwards_22 : decode cX9_upwards 22 = .ok (.iconst 1, 1) := by decide +kernel
theorem dX9_upwards_23 : decode cX9_upwards 23 = .ok (.iadd, 1) := by decide +kernel
theorem dX9_upwards_24 : decode cX9_upwards 24 = .ok (.goto 5, 3) := by decide +kernel
theorem dX9_upwards_27 : decode cX9_upwards 27 = .ok (.iload 4, 2) := by decide +kernel
theorem dX9_upwards_29 : decode cX9_upwards 29 = .ok (.ireturn, 1) := by decide +kernel
set_option maxRecDepth 20000 in
theorem ggX9_hold_X9_rounded : GoodIn wsX9_hold wsX9_rounded := goodIn_r _ [6, 7, 8, 9, 10, 11, 12, 13, 14, 15, 16, 17, 18, 19, 20, 21, 22, 23, 24, 25, 26, 27, 28, 29, 30, 31, 32, 33, 34, 35, 36, 37, 38] (by decide +kernel) (by decide +kernel)
set_option maxRecDepth 20000 in
theorem gX9_hold_X9_rounded : GoodIn wsX9_hold (wsV RX9 79 RX9 yX9_rounded wsX9_rounded) := goodIn_app (goodIn_of _ (by decide +kernel)) ggX9_hold_X9_rounded
theorem dX9_hold_0 : decode cX9_hold 0 = .ok (.aload_n 0, 1) := by decide +kernel
theorem dX9_hold_1 : decode cX9_hold 1 = .ok (.aload_n 0, 1) := by decide +kernel
theorem dX9_hold_2 : decode cX9_hold 2 = .ok (.getfield 48, 3) := by decide +kernel
theorem dX9_hold_5 : decode cX9_hold 5 = .ok (.iload_n 2, 1) := by decide +kernel
theorem dX9_hold_6 : decode cX9_hold 6 = .ok (.iaload, 1) := by decide +kernel
theorem dX9_hold_7 : decode cX9_hold 7 = .ok (.invokevirtual 79, 3) := by decide +kernel
theorem dX9_hold_10 : decode cX9_hold 10 = .ok (.istore_n 3, 1) := by decide +kernel
theorem dX9_hold_11 : decode cX9_hold 11 = .ok (.aload_n 0, 1) := by decide +kernel
theorem dX9_hold_12 : decode cX9_hold 12 = .ok (.getfield 48, 3) := by decide +kernel
theorem dX9_hold_15 : decode cX9_hold 15 = .ok (.iload_n 1, 1) := by decide +kernel
theorem dX9_hold_16 : decode cX9_hold 16 = .ok (.iaload, 1) := by decide +kernel
theorem dX9_hold_17 : decode cX9_hold 17 = .ok (.iload_n 3, 1) := by decide +kernel
theorem dX9_hold_18 : decode cX9_hold 18 = .ok (.iconst 2, 1) := by decide +kernel
theorem dX9_hold_19 : decode cX9_hold 19 = .ok (.iadd, 1) := by decide +kernel
theorem dX9_hold_20 : decode cX9_hold 20 = .ok (.if_icmp .le 15, 3) := by decide +kernel
theorem dX9_hold_23 : decode cX9_hold 23 = .ok (.aload_n 0, 1) := by decide +kernel
theorem dX9_hold_24 : decode cX9_hold 24 = .ok (.getfield 48, 3) := by decide +kernel
theorem dX9_hold_27 : decode cX9_hold 27 = .ok (.iload_n 1, 1) := by decide +kernel
theorem dX9_hold_28 : decode cX9_hold 28 = .ok (.iload_n 3, 1) := by decide +kernel
theorem dX9_hold_29 : decode cX9_hold 29 = .ok (.iconst 2, 1) := by decide +kernel
theorem dX9_hold_30 : decode cX9_hold 30 = .ok (.iadd, 1) := by decide +kernel
theorem dX9_hold_31 : decode cX9_hold 31 = .ok (.iastore, 1) := by decide +kernel
theorem dX9_hold_32 : decode cX9_hold 32 = .ok (.goto 24, 3) := by decide +kernel
theorem dX9_hold_35 : decode cX9_hold 35 = .ok (.aload_n 0, 1) := by decide +kernel
theorem dX9_hold_36 : decode cX9_hold 36 = .ok (.getfield 48, 3) := by decide +kernel
theorem dX9_hold_39 : decode cX9_hold 39 = .ok (.iload_n 1, 1) := by decide +kernel
theorem dX9_hold_40 : decode cX9_hold 40 = .ok (.iaload, 1) := by decide +kernel
theorem dX9_hold_41 : decode cX9_hold 41 = .ok (.iload_n 3, 1) := by decide +kernel
theorem dX9_hold_42 : decode cX9_hold 42 = .ok (.iconst 2, 1) := by decide +kernel
theorem dX9_hold_43 : decode cX9_hold 43 = .ok (.isub, 1) := by decide +kernel
theorem dX9_hold_44 : decode cX9_hold 44 = .ok (.if_icmp .ge 12, 3) := by decide +kernel
theorem dX9_hold_47 : decode cX9_hold 47 = .ok (.aload_n 0, 1) := by decide +kernel
theorem dX9_hold_48 : decode cX9_hold 48 = .ok (.getfield 48, 3) := by decide +kernel
theorem dX9_hold_51 : decode cX9_hold 51 = .ok (.iload_n 1, 1) := by decide +kernel
theorem dX9_hold_52 : decode cX9_hold 52 = .ok (.iload_n 3, 1) := by decide +kernel
theorem dX9_hold_53 : decode cX9_hold 53 = .ok (.iconst 2, 1) := by decide +kernel
theorem dX9_hold_54 : decode cX9_hold 54 = .ok (.isub, 1) := by decide +kernel
theorem dX9_hold_55 : decode cX9_hold 55 = .ok (.iastore, 1) := by decide +kernel
theorem dX9_hold_56 : decode cX9_hold 56 = .ok (.return_, 1) := by decide +kernel
set_option maxRecDepth 20000 in
theorem ggX9_right_X9_rounded : GoodIn wsX9_right wsX9_rounded := goodIn_r _ [8, 9, 10, 15, 16, 17, 18, 19, 20, 21, 22, 23, 24, 25, 26, 27, 28, 29, 30, 31, 32, 33, 34, 35, 36, 37, 38, 39, 40, 41, 42, 43, 44] (by decide +kernel) (by decide +kernel)
set_option maxRecDepth 20000 in
theorem gX9_right_X9_rounded : GoodIn wsX9_right (wsV RX9 79 RX9 yX9_rounded wsX9_rounded) := goodIn_app (goodIn_of _ (by decide +kernel)) ggX9_right_X9_rounded
set_option maxRecDepth 20000 in
theorem ggX9_right_X9_hold : GoodIn wsX9_right wsX9_hold := goodIn_r _ [14, 3, 4, 5, 6, 7, 8, 9, 10, 15, 16, 17, 18, 19, 20, 21, 22, 23, 24, 25, 26, 27, 28, 29, 30, 31, 32, 33, 34, 35, 36, 37, 38, 39, 40, 41, 42, 43, 44] (by decide +kernel) (by decide +kernel)
set_option maxRecDepth 20000 in
theorem gX9_right_X9_hold : GoodIn wsX9_right (wsV RX9 85 RX9 yX9_hold wsX9_hold) := goodIn_app (goodIn_of _ (by decide +kernel)) ggX9_right_X9_hold
theorem dX9_right_0 : decode cX9_right 0 = .ok (.aload_n 0, 1) := by decide +kernel
theorem dX9_right_1 : decode cX9_right 1 = .ok (.getfield 82, 3) := by decide +kernel
theorem dX9_right_4 : decode cX9_right 4 = .ok (.ifCond .ge 7, 3) := by decide +kernel
theorem dX9_right_7 : decode cX9_right 7 = .ok (.iconst 0, 1) := by decide +kernel
theorem dX9_right_8 : decode cX9_right 8 = .ok (.goto 15, 3) := by decide +kernel
theorem dX9_right_11 : decode cX9_right 11 = .ok (.aload_n 0, 1) := by decide +kernel
theorem dX9_right_12 : decode cX9_right 12 = .ok (.getfield 26, 3) := by decide +kernel
theorem dX9_right_15 : decode cX9_right 15 = .ok (.aload_n 0, 1) := by decide +kernel
theorem dX9_right_16 : decode cX9_right 16 = .ok (.getfield 82, 3) := by decide +kernel
theorem dX9_right_19 : decode cX9_right 19 = .ok (.iaload, 1) := by decide +kernel
theorem dX9_right_20 : decode cX9_right 20 = .ok (.bipush 6, 2) := by decide +kernel
theorem dX9_right_22 : decode cX9_right 22 = .ok (.idiv, 1) := by decide +kernel
theorem dX9_right_23 : decode cX9_right 23 = .ok (.istore_n 2, 1) := by decide +kernel
theorem dX9_right_24 : decode cX9_right 24 = .ok (.aload_n 0, 1) := by decide +kernel
theorem dX9_right_25 : decode cX9_right 25 = .ok (.getfield 82, 3) := by decide +kernel
theorem dX9_right_28 : decode cX9_right 28 = .ok (.ifCond .lt 20, 3) := by decide +kernel
theorem dX9_right_31 : decode cX9_right 31 = .ok (.iload_n 1, 1) := by decide +kernel
theorem dX9_right_32 : decode cX9_right 32 = .ok (.iload_n 2, 1) := by decide +kernel
theorem dX9_right_33 : decode cX9_right 33 = .ok (.if_icmp .ge 15, 3) := by decide +kernel
theorem dX9_right_36 : decode cX9_right 36 = .ok (.iload_n 1, 1) := by decide +kernel
theorem dX9_right_37 : decode cX9_right 37 = .ok (.bipush (-4), 2) := by decide +kernel
theorem dX9_right_39 : decode cX9_right 39 = .ok (.iload_n 2, 1) := by decide +kernel
theorem dX9_right_40 : decode cX9_right 40 = .ok (.imul, 1) := by decide +kernel
theorem dX9_right_41 : decode cX9_right 41 = .ok (.if_icmp .le 7, 3) := by decide +kernel
theorem dX9_right_44 : decode cX9_right 44 = .ok (.iconst 1, 1) := by decide +kernel
theorem dX9_right_45 : decode cX9_right 45 = .ok (.goto 4, 3) := by decide +kernel
theorem dX9_right_48 : decode cX9_right 48 = .ok (.iconst 0, 1) := by decide +kernel
theorem dX9_right_49 : decode cX9_right 49 = .ok (.istore_n 3, 1) := by decide +kernel
theorem dX9_right_50 : decode cX9_right 50 = .ok (.aload_n 0, 1) := by decide +kernel
theorem dX9_right_51 : decode cX9_right 51 = .ok (.getfield 48, 3) := by decide +kernel
theorem dX9_right_54 : decode cX9_right 54 = .ok (.bipush 6, 2) := by decide +kernel
theorem dX9_right_56 : decode cX9_right 56 = .ok (.iload_n 3, 1) := by decide +kernel
theorem dX9_right_57 : decode cX9_right 57 = .ok (.ifCond .eq 19, 3) := by decide +kernel
theorem dX9_right_60 : decode cX9_right 60 = .ok (.aload_n 0, 1) := by decide +kernel
theorem dX9_right_61 : decode cX9_right 61 = .ok (.getfield 48, 3) := by decide +kernel
theorem dX9_right_64 : decode cX9_right 64 = .ok (.bipush 6, 2) := by decide +kernel
theorem dX9_right_66 : decode cX9_right 66 = .ok (.iaload, 1) := by decide +kernel
theorem dX9_right_67 : decode cX9_right 67 = .ok (.aload_n 0, 1) := by decide +kernel
theorem dX9_right_68 : decode cX9_right 68 = .ok (.iload_n 1, 1) := by decide +kernel
theorem dX9_right_69 : decode cX9_right 69 = .ok (.invokevirtual 79, 3) := by decide +kernel
theorem dX9_right_72 : decode cX9_right 72 = .ok (.iadd, 1) := by decide +kernel
theorem dX9_right_73 : decode cX9_right 73 = .ok (.goto 15, 3) := by decide +kernel
theorem dX9_right_76 : decode cX9_right 76 = .ok (.aload_n 0, 1) := by decide +kernel
theorem dX9_right_77 : decode cX9_right 77 = .ok (.aload_n 0, 1) := by decide +kernel
theorem dX9_right_78 : decode cX9_right 78 = .ok (.getfield 48, 3) := by decide +kernel
theorem dX9_right_81 : decode cX9_right 81 = .ok (.iconst 0, 1) := by decide +kernel
theorem dX9_right_82 : decode cX9_right 82 = .ok (.iaload, 1) := by decide +kernel
theorem dX9_right_83 : decode cX9_right 83 = .ok (.iload_n 1, 1) := by decide +kernel
theorem dX9_right_84 : decode cX9_right 84 = .ok (.iadd, 1) := by decide +kernel
theorem dX9_right_85 : decode cX9_right 85 = .ok (.invokevirtual 79, 3) := by decide +kernel
theorem dX9_right_88 : decode cX9_right 88 = .ok (.iastore, 1) := by decide +kernel
theorem dX9_right_89 : decode cX9_right 89 = .ok (.aload_n 0, 1) := by decide +kernel
theorem dX9_right_90 : decode cX9_right 90 = .ok (.getfield 48, 3) := by decide +kernel
theorem dX9_right_93 : decode cX9_right 93 = .ok (.iconst 0, 1) := by decide +kernel
theorem dX9_right_94 : decode cX9_right 94 = .ok (.dup2, 1) := by decide +kernel
theorem dX9_right_95 : decode cX9_right 95 = .ok (.iaload, 1) := by decide +kernel
theorem dX9_right_96 : decode cX9_right 96 = .ok (.iload_n 1, 1) := by decide +kernel
theorem dX9_right_97 : decode cX9_right 97 = .ok (.iadd, 1) := by decide +kernel
theorem dX9_right_98 : decode cX9_right 98 = .ok (.iastore, 1) := by decide +kernel
theorem dX9_right_99 : decode cX9_right 99 = .ok (.aload_n 0, 1) := by decide +kernel
theorem dX9_right_100 : decode cX9_right 100 = .ok (.bipush 6, 2) := by decide +kernel
theorem dX9_right_102 : decode cX9_right 102 = .ok (.iconst 0, 1) := by decide +kernel
theorem dX9_right_103 : decode cX9_right 103 = .ok (.invokevirtual 85, 3) := by decide +kernel
theorem dX9_right_106 : decode cX9_right 106 = .ok (.return_, 1) := by decide +kernel
set_option maxRecDepth 20000 in
theorem ggX9_down_X9_rounded : GoodIn wsX9_down wsX9_rounded := goodIn_r _ [8, 9, 10, 15, 16, 17, 18, 19, 20, 21, 22, 23, 24, 25, 26, 27, 28, 29, 30, 31, 32, 33, 34, 35, 36, 37, 38, 39, 40, 41, 42, 43, 44] (by decide +kernel) (by decide +kernel)
set_option maxRecDepth 20000 in
theorem gX9_down_X9_rounded : GoodIn wsX9_down (wsV RX9 79 RX9 yX9_rounded wsX9_rounded) := goodIn_app (goodIn_of _ (by decide +kernel)) ggX9_down_X9_rounded
set_option maxRecDepth 20000 in
theorem ggX9_down_X9_hold : GoodIn wsX9_down wsX9_hold := goodIn_r _ [14, 3, 4, 5, 6, 7, 8, 9, 10, 15, 16, 17, 18, 19, 20, 21, 22, 23, 24, 25, 26, 27, 28, 29, 30, 31, 32, 33, 34, 35, 36, 37, 38, 39, 40, 41, 42, 43, 44] (by decide +kernel) (by decide +kernel)
set_option maxRecDepth 20000 in
theorem gX9_down_X9_hold : GoodIn wsX9_down (wsV RX9 85 RX9 yX9_hold wsX9_hold) := goodIn_app (goodIn_of _ (by decide +kernel)) ggX9_down_X9_hold
theorem dX9_down_0 : decode cX9_down 0 = .ok (.aload_n 0, 1) := by decide +kernel
theorem dX9_down_1 : decode cX9_down 1 = .ok (.getfield 82, 3) := by decide +kernel
theorem dX9_down_4 : decode cX9_down 4 = .ok (.ifCond .ge 7, 3) := by decide +kernel
theorem dX9_down_7 : decode cX9_down 7 = .ok (.iconst 0, 1) := by decide +kernel
theorem dX9_down_8 : decode cX9_down 8 = .ok (.goto 16, 3) := by decide +kernel
theorem dX9_down_11 : decode cX9_down 11 = .ok (.iconst 4, 1) := by decide +kernel
theorem dX9_down_12 : decode cX9_down 12 = .ok (.aload_n 0, 1) := by decide +kernel
theorem dX9_down_13 : decode cX9_down 13 = .ok (.getfield 26, 3) := by decide +kernel
theorem dX9_down_16 : decode cX9_down 16 = .ok (.aload_n 0, 1) := by decide +kernel
theorem dX9_down_17 : decode cX9_down 17 = .ok (.getfield 82, 3) := by decide +kernel
theorem dX9_down_20 : decode cX9_down 20 = .ok (.iaload, 1) := by decide +kernel
theorem dX9_down_21 : decode cX9_down 21 = .ok (.iconst 5, 1) := by decide +kernel
theorem dX9_down_22 : decode cX9_down 22 = .ok (.idiv, 1) := by decide +kernel
theorem dX9_down_23 : decode cX9_down 23 = .ok (.imul, 1) := by decide +kernel
theorem dX9_down_24 : decode cX9_down 24 = .ok (.istore_n 2, 1) := by decide +kernel
theorem dX9_down_25 : decode cX9_down 25 = .ok (.aload_n 0, 1) := by decide +kernel
theorem dX9_down_26 : decode cX9_down 26 = .ok (.getfield 82, 3) := by decide +kernel
theorem dX9_down_29 : decode cX9_down 29 = .ok (.ifCond .lt 18, 3) := by decide +kernel
theorem dX9_down_32 : decode cX9_down 32 = .ok (.iload_n 1, 1) := by decide +kernel
theorem dX9_down_33 : decode cX9_down 33 = .ok (.iload_n 2, 1) := by decide +kernel
theorem dX9_down_34 : decode cX9_down 34 = .ok (.if_icmp .ge 13, 3) := by decide +kernel
theorem dX9_down_37 : decode cX9_down 37 = .ok (.iload_n 1, 1) := by decide +kernel
theorem dX9_down_38 : decode cX9_down 38 = .ok (.iload_n 2, 1) := by decide +kernel
theorem dX9_down_39 : decode cX9_down 39 = .ok (.ineg, 1) := by decide +kernel
theorem dX9_down_40 : decode cX9_down 40 = .ok (.if_icmp .le 7, 3) := by decide +kernel
theorem dX9_down_43 : decode cX9_down 43 = .ok (.iconst 1, 1) := by decide +kernel
theorem dX9_down_44 : decode cX9_down 44 = .ok (.goto 4, 3) := by decide +kernel
theorem dX9_down_47 : decode cX9_down 47 = .ok (.iconst 0, 1) := by decide +kernel
theorem dX9_down_48 : decode cX9_down 48 = .ok (.istore_n 3, 1) := by decide +kernel
theorem dX9_down_49 : decode cX9_down 49 = .ok (.aload_n 0, 1) := by decide +kernel
theorem dX9_down_50 : decode cX9_down 50 = .ok (.getfield 48, 3) := by decide +kernel
theorem dX9_down_53 : decode cX9_down 53 = .ok (.bipush 7, 2) := by decide +kernel
theorem dX9_down_55 : decode cX9_down 55 = .ok (.iload_n 3, 1) := by decide +kernel
theorem dX9_down_56 : decode cX9_down 56 = .ok (.ifCond .eq 19, 3) := by decide +kernel
theorem dX9_down_59 : decode cX9_down 59 = .ok (.aload_n 0, 1) := by decide +kernel
theorem dX9_down_60 : decode cX9_down 60 = .ok (.getfield 48, 3) := by decide +kernel
theorem dX9_down_63 : decode cX9_down 63 = .ok (.bipush 7, 2) := by decide +kernel
theorem dX9_down_65 : decode cX9_down 65 = .ok (.iaload, 1) := by decide +kernel
theorem dX9_down_66 : decode cX9_down 66 = .ok (.aload_n 0, 1) := by decide +kernel
theorem dX9_down_67 : decode cX9_down 67 = .ok (.iload_n 1, 1) := by decide +kernel
theorem dX9_down_68 : decode cX9_down 68 = .ok (.invokevirtual 79, 3) := by decide +kernel
theorem dX9_down_71 : decode cX9_down 71 = .ok (.iadd, 1) := by decide +kernel
theorem dX9_down_72 : decode cX9_down 72 = .ok (.goto 15, 3) := by decide +kernel
theorem dX9_down_75 : decode cX9_down 75 = .ok (.aload_n 0, 1) := by decide +kernel
theorem dX9_down_76 : decode cX9_down 76 = .ok (.aload_n 0, 1) := by decide +kernel
theorem dX9_down_77 : decode cX9_down 77 = .ok (.getfield 48, 3) := by decide +kernel
theorem dX9_down_80 : decode cX9_down 80 = .ok (.iconst 1, 1) := by decide +kernel
theorem dX9_down_81 : decode cX9_down 81 = .ok (.iaload, 1) := by decide +kernel
theorem dX9_down_82 : decode cX9_down 82 = .ok (.iload_n 1, 1) := by decide +kernel
theorem dX9_down_83 : decode cX9_down 83 = .ok (.iadd, 1) := by decide +kernel
theorem dX9_down_84 : decode cX9_down 84 = .ok (.invokevirtual 79, 3) := by decide +kernel
theorem dX9_down_87 : decode cX9_down 87 = .ok (.iastore, 1) := by decide +kernel
theorem dX9_down_88 : decode cX9_down 88 = .ok (.aload_n 0, 1) := by decide +kernel
theorem dX9_down_89 : decode cX9_down 89 = .ok (.getfield 48, 3) := by decide +kernel
theorem dX9_down_92 : decode cX9_down 92 = .ok (.iconst 1, 1) := by decide +kernel
theorem dX9_down_93 : decode cX9_down 93 = .ok (.dup2, 1) := by decide +kernel
theorem dX9_down_94 : decode cX9_down 94 = .ok (.iaload, 1) := by decide +kernel
theorem dX9_down_95 : decode cX9_down 95 = .ok (.iload_n 1, 1) := by decide +kernel
theorem dX9_down_96 : decode cX9_down 96 = .ok (.iadd, 1) := by decide +kernel
theorem dX9_down_97 : decode cX9_down 97 = .ok (.iastore, 1) := by decide +kernel
theorem dX9_down_98 : decode cX9_down 98 = .ok (.aload_n 0, 1) := by decide +kernel
theorem dX9_down_99 : decode cX9_down 99 = .ok (.bipush 7, 2) := by decide +kernel
theorem dX9_down_101 : decode cX9_down 101 = .ok (.iconst 1, 1) := by decide +kernel
theorem dX9_down_102 : decode cX9_down 102 = .ok (.invokevirtual 85, 3) := by decide +kernel
theorem dX9_down_105 : decode cX9_down 105 = .ok (.return_, 1) := by decide +kernel
set_option maxRecDepth 20000 in
theorem ggX9_goOn_X9_hold : GoodIn wsX9_goOn wsX9_hold := goodIn_r _ [6, 1, 7, 8, 9, 5, 10, 11, 12, 13, 14, 15, 16, 17, 18, 19, 20, 21, 22, 23, 24, 25, 26, 27, 28, 29, 30, 31, 32, 33, 34, 35, 36, 37, 38, 39, 40, 41, 42] (by decide +kernel) (by decide +kernel)
set_option maxRecDepth 20000 in
theorem gX9_goOn_X9_hold : GoodIn wsX9_goOn (wsV RX9 85 RX9 yX9_hold wsX9_hold) := goodIn_app (goodIn_of _ (by decide +kernel)) ggX9_goOn_X9_hold
theorem dX9_goOn_0 : decode cX9_goOn 0 = .ok (.aload_n 0, 1) := by decide +kernel
theorem dX9_goOn_1 : decode cX9_goOn 1 = .ok (.getfield 48, 3) := by decide +kernel
theorem dX9_goOn_4 : decode cX9_goOn 4 = .ok (.bipush 6, 2) := by decide +kernel
theorem dX9_goOn_6 : decode cX9_goOn 6 = .ok (.dup2, 1) := by decide +kernel
theorem dX9_goOn_7 : decode cX9_goOn 7 = .ok (.iaload, 1) := by decide +kernel
theorem dX9_goOn_8 : decode cX9_goOn 8 = .ok (.iload_n 2, 1) := by decide +kernel
theorem dX9_goOn_9 : decode cX9_goOn 9 = .ok (.iadd, 1) := by decide +kernel
theorem dX9_goOn_10 : decode cX9_goOn 10 = .ok (.iastore, 1) := by decide +kernel
theorem dX9_goOn_11 : decode cX9_goOn 11 = .ok (.aload_n 0, 1) := by decide +kernel
theorem dX9_goOn_12 : decode cX9_goOn 12 = .ok (.getfield 48, 3) := by decide +kernel
theorem dX9_goOn_15 : decode cX9_goOn 15 = .ok (.iconst 0, 1) := by decide +kernel
theorem dX9_goOn_16 : decode cX9_goOn 16 = .ok (.dup2, 1) := by decide +kernel
theorem dX9_goOn_17 : decode cX9_goOn 17 = .ok (.iaload, 1) := by decide +kernel
theorem dX9_goOn_18 : decode cX9_goOn 18 = .ok (.iload_n 1, 1) := by decide +kernel
theorem dX9_goOn_19 : decode cX9_goOn 19 = .ok (.iadd, 1) := by decide +kernel
theorem dX9_goOn_20 : decode cX9_goOn 20 = .ok (.iastore, 1) := by decide +kernel
theorem dX9_goOn_21 : decode cX9_goOn 21 = .ok (.aload_n 0, 1) := by decide +kernel
theorem dX9_goOn_22 : decode cX9_goOn 22 = .ok (.bipush 6, 2) := by decide +kernel
theorem dX9_goOn_24 : decode cX9_goOn 24 = .ok (.iconst 0, 1) := by decide +kernel
theorem dX9_goOn_25 : decode cX9_goOn 25 = .ok (.invokevirtual 85, 3) := by decide +kernel
theorem dX9_goOn_28 : decode cX9_goOn 28 = .ok (.return_, 1) := by decide +kernel
set_option maxRecDepth 20000 in
theorem ggX9_put_X9_upwards : GoodIn wsX9_put wsX9_upwards := goodIn_r _ [10, 11, 12, 13, 14, 15, 16, 17, 18, 19, 20, 21, 22, 23, 24, 25, 26, 27, 28, 29, 30, 31, 32, 33, 34, 35, 36, 37, 38, 39, 40, 41] (by decide +kernel) (by decide +kernel)
set_option maxRecDepth 20000 in
theorem gX9_put_X9_upwards : GoodIn wsX9_put (wsV RX9 92 RX9 yX9_upwards wsX9_upwards) := goodIn_app (goodIn_of _ (by decide +kernel)) ggX9_put_X9_upwards
theorem dX9_put_0 : decode cX9_put 0 = .ok (.aload_n 0, 1) := by decide +kernel
theorem dX9_put_1 : decode cX9_put 1 = .ok (.getfield 89, 3) := by decide +kernel
theorem dX9_put_4 : decode cX9_put 4 = .ok (.sipush 200, 3) := by decide +kernel
theorem dX9_put_7 : decode cX9_put 7 = .ok (.if_icmp .ne 5, 3) := by decide +kernel
theorem dX9_put_10 : decode cX9_put 10 = .ok (.iconst 0, 1) := by decide +kernel
theorem dX9_put_11 : decode cX9_put 11 = .ok (.ireturn, 1) := by decide +kernel
theorem dX9_put_12 : decode cX9_put 12 = .ok (.bipush 9, 2) := by decide +kernel
theorem dX9_put_14 : decode cX9_put 14 = .ok (.aload_n 0, 1) := by decide +kernel
theorem dX9_put_15 : decode cX9_put 15 = .ok (.getfield 89, 3) := by decide +kernel
theorem dX9_put_18 : decode cX9_put 18 = .ok (.imul, 1) := by decide +kernel
theorem dX9_put_19 : decode cX9_put 19 = .ok (.istore 4, 2) := by decide +kernel
theorem dX9_put_21 : decode cX9_put 21 = .ok (.aload_n 0, 1) := by decide +kernel
theorem dX9_put_22 : decode cX9_put 22 = .ok (.getfield 45, 3) := by decide +kernel
theorem dX9_put_25 : decode cX9_put 25 = .ok (.iload 4, 2) := by decide +kernel
theorem dX9_put_27 : decode cX9_put 27 = .ok (.iload_n 1, 1) := by decide +kernel
theorem dX9_put_28 : decode cX9_put 28 = .ok (.iastore, 1) := by decide +kernel
theorem dX9_put_29 : decode cX9_put 29 = .ok (.aload_n 0, 1) := by decide +kernel
theorem dX9_put_30 : decode cX9_put 30 = .ok (.getfield 45, 3) := by decide +kernel
theorem dX9_put_33 : decode cX9_put 33 = .ok (.iload 4, 2) := by decide +kernel
theorem dX9_put_35 : decode cX9_put 35 = .ok (.iconst 1, 1) := by decide +kernel
theorem dX9_put_36 : decode cX9_put 36 = .ok (.iadd, 1) := by decide +kernel
theorem dX9_put_37 : decode cX9_put 37 = .ok (.iload_n 2, 1) := by decide +kernel
theorem dX9_put_38 : decode cX9_put 38 = .ok (.iastore, 1) := by decide +kernel
theorem dX9_put_39 : decode cX9_put 39 = .ok (.aload_n 0, 1) := by decide +kernel
theorem dX9_put_40 : decode cX9_put 40 = .ok (.getfield 45, 3) := by decide +kernel
theorem dX9_put_43 : decode cX9_put 43 = .ok (.iload 4, 2) := by decide +kernel
theorem dX9_put_45 : decode cX9_put 45 = .ok (.iconst 2, 1) := by decide +kernel
theorem dX9_put_46 : decode cX9_put 46 = .ok (.iadd, 1) := by decide +kernel
theorem dX9_put_47 : decode cX9_put 47 = .ok (.aload_n 0, 1) := by decide +kernel
theorem dX9_put_48 : decode cX9_put 48 = .ok (.getfield 48, 3) := by decide +kernel
theorem dX9_put_51 : decode cX9_put 51 = .ok (.iconst 0, 1) := by decide +kernel
theorem dX9_put_52 : decode cX9_put 52 = .ok (.iaload, 1) := by decide +kernel
theorem dX9_put_53 : decode cX9_put 53 = .ok (.iastore, 1) := by decide +kernel
theorem dX9_put_54 : decode cX9_put 54 = .ok (.aload_n 0, 1) := by decide +kernel
theorem dX9_put_55 : decode cX9_put 55 = .ok (.getfield 45, 3) := by decide +kernel
theorem dX9_put_58 : decode cX9_put 58 = .ok (.iload 4, 2) := by decide +kernel
theorem dX9_put_60 : decode cX9_put 60 = .ok (.iconst 3, 1) := by decide +kernel
theorem dX9_put_61 : decode cX9_put 61 = .ok (.iadd, 1) := by decide +kernel
theorem dX9_put_62 : decode cX9_put 62 = .ok (.aload_n 0, 1) := by decide +kernel
theorem dX9_put_63 : decode cX9_put 63 = .ok (.getfield 48, 3) := by decide +kernel
theorem dX9_put_66 : decode cX9_put 66 = .ok (.iconst 1, 1) := by decide +kernel
theorem dX9_put_67 : decode cX9_put 67 = .ok (.iaload, 1) := by decide +kernel
theorem dX9_put_68 : decode cX9_put 68 = .ok (.iastore, 1) := by decide +kernel
theorem dX9_put_69 : decode cX9_put 69 = .ok (.aload_n 0, 1) := by decide +kernel
theorem dX9_put_70 : decode cX9_put 70 = .ok (.getfield 45, 3) := by decide +kernel
theorem dX9_put_73 : decode cX9_put 73 = .ok (.iload 4, 2) := by decide +kernel
theorem dX9_put_75 : decode cX9_put 75 = .ok (.iconst 4, 1) := by decide +kernel
theorem dX9_put_76 : decode cX9_put 76 = .ok (.iadd, 1) := by decide +kernel
theorem dX9_put_77 : decode cX9_put 77 = .ok (.aload_n 0, 1) := by decide +kernel
theorem dX9_put_78 : decode cX9_put 78 = .ok (.getfield 48, 3) := by decide +kernel
theorem dX9_put_81 : decode cX9_put 81 = .ok (.bipush 6, 2) := by decide +kernel
theorem dX9_put_83 : decode cX9_put 83 = .ok (.iaload, 1) := by decide +kernel
theorem dX9_put_84 : decode cX9_put 84 = .ok (.iastore, 1) := by decide +kernel
theorem dX9_put_85 : decode cX9_put 85 = .ok (.aload_n 0, 1) := by decide +kernel
theorem dX9_put_86 : decode cX9_put 86 = .ok (.getfield 45, 3) := by decide +kernel
theorem dX9_put_89 : decode cX9_put 89 = .ok (.iload 4, 2) := by decide +kernel
theorem dX9_put_91 : decode cX9_put 91 = .ok (.iconst 5, 1) := by decide +kernel
theorem dX9_put_92 : decode cX9_put 92 = .ok (.iadd, 1) := by decide +kernel
theorem dX9_put_93 : decode cX9_put 93 = .ok (.aload_n 0, 1) := by decide +kernel
theorem dX9_put_94 : decode cX9_put 94 = .ok (.getfield 48, 3) := by decide +kernel
theorem dX9_put_97 : decode cX9_put 97 = .ok (.bipush 7, 2) := by decide +kernel
theorem dX9_put_99 : decode cX9_put 99 = .ok (.iaload, 1) := by decide +kernel
theorem dX9_put_100 : decode cX9_put 100 = .ok (.iastore, 1) := by decide +kernel
theorem dX9_put_101 : decode cX9_put 101 = .ok (.aload_n 0, 1) := by decide +kernel
theorem dX9_put_102 : decode cX9_put 102 = .ok (.getfield 45, 3) := by decide +kernel
theorem dX9_put_105 : decode cX9_put 105 = .ok (.iload 4, 2) := by decide +kernel
theorem dX9_put_107 : decode cX9_put 107 = .ok (.bipush 6, 2) := by decide +kernel
theorem dX9_put_109 : decode cX9_put 109 = .ok (.iadd, 1) := by decide +kernel
theorem dX9_put_110 : decode cX9_put 110 = .ok (.iload_n 3, 1) := by decide +kernel
theorem dX9_put_111 : decode cX9_put 111 = .ok (.iastore, 1) := by decide +kernel
theorem dX9_put_112 : decode cX9_put 112 = .ok (.aload_n 0, 1) := by decide +kernel
theorem dX9_put_113 : decode cX9_put 113 = .ok (.getfield 45, 3) := by decide +kernel
theorem dX9_put_116 : decode cX9_put 116 = .ok (.iload 4, 2) := by decide +kernel
theorem dX9_put_118 : decode cX9_put 118 = .ok (.bipush 7, 2) := by decide +kernel
theorem dX9_put_120 : decode cX9_put 120 = .ok (.iadd, 1) := by decide +kernel
theorem dX9_put_121 : decode cX9_put 121 = .ok (.iload_n 1, 1) := by decide +kernel
theorem dX9_put_122 : decode cX9_put 122 = .ok (.sipush 128, 3) := by decide +kernel
theorem dX9_put_125 : decode cX9_put 125 = .ok (.if_icmp .ne 11, 3) := by decide +kernel
theorem dX9_put_128 : decode cX9_put 128 = .ok (.aload_n 0, 1) := by decide +kernel
theorem dX9_put_129 : decode cX9_put 129 = .ok (.iload_n 3, 1) := by decide +kernel
theorem dX9_put_130 : decode cX9_put 130 = .ok (.invokevirtual 92, 3) := by decide +kernel
theorem dX9_put_133 : decode cX9_put 133 = .ok (.goto 4, 3) := by decide +kernel
theorem dX9_put_136 : decode cX9_put 136 = .ok (.iconst 0, 1) := by decide +kernel
theorem dX9_put_137 : decode cX9_put 137 = .ok (.iastore, 1) := by decide +kernel
theorem dX9_put_138 : decode cX9_put 138 = .ok (.aload_n 0, 1) := by decide +kernel
theorem dX9_put_139 : decode cX9_put 139 = .ok (.getfield 45, 3) := by decide +kernel
theorem dX9_put_142 : decode cX9_put 142 = .ok (.iload 4, 2) := by decide +kernel
theorem dX9_put_144 : decode cX9_put 144 = .ok (.bipush 8, 2) := by decide +kernel
theorem dX9_put_146 : decode cX9_put 146 = .ok (.iadd, 1) := by decide +kernel
theorem dX9_put_147 : decode cX9_put 147 = .ok (.iload_n 1, 1) := by decide +kernel
theorem dX9_put_148 : decode cX9_put 148 = .ok (.sipush 128, 3) := by decide +kernel
theorem dX9_put_151 : decode cX9_put 151 = .ok (.if_icmp .ne 11, 3) := by decide +kernel
theorem dX9_put_154 : decode cX9_put 154 = .ok (.aload_n 0, 1) := by decide +kernel
theorem dX9_put_155 : decode cX9_put 155 = .ok (.iload_n 2, 1) := by decide +kernel
theorem dX9_put_156 : decode cX9_put 156 = .ok (.invokevirtual 92, 3) := by decide +kernel
theorem dX9_put_159 : decode cX9_put 159 = .ok (.goto 4, 3) := by decide +kernel
theorem dX9_put_162 : decode cX9_put 162 = .ok (.iconst 0, 1) := by decide +kernel
theorem dX9_put_163 : decode cX9_put 163 = .ok (.iastore, 1) := by decide +kernel
theorem dX9_put_164 : decode cX9_put 164 = .ok (.aload_n 0, 1) := by decide +kernel
theorem dX9_put_165 : decode cX9_put 165 = .ok (.dup, 1) := by decide +kernel
theorem dX9_put_166 : decode cX9_put 166 = .ok (.getfield 89, 3) := by decide +kernel
theorem dX9_put_169 : decode cX9_put 169 = .ok (.iconst 1, 1) := by decide +kernel
theorem dX9_put_170 : decode cX9_put 170 = .ok (.iadd, 1) := by decide +kernel
theorem dX9_put_171 : decode cX9_put 171 = .ok (.putfield 89, 3) := by decide +kernel
theorem dX9_put_174 : decode cX9_put 174 = .ok (.aload_n 0, 1) := by decide +kernel
theorem dX9_put_175 : decode cX9_put 175 = .ok (.getfield 36, 3) := by decide +kernel
theorem dX9_put_178 : decode cX9_put 178 = .ok (.aload_n 0, 1) := by decide +kernel
theorem dX9_put_179 : decode cX9_put 179 = .ok (.getfield 95, 3) := by decide +kernel
theorem dX9_put_182 : decode cX9_put 182 = .ok (.iconst 1, 1) := by decide +kernel
theorem dX9_put_183 : decode cX9_put 183 = .ok (.isub, 1) := by decide +kernel
theorem dX9_put_184 : decode cX9_put 184 = .ok (.dup2, 1) := by decide +kernel
theorem dX9_put_185 : decode cX9_put 185 = .ok (.iaload, 1) := by decide +kernel
theorem dX9_put_186 : decode cX9_put 186 = .ok (.iconst 1, 1) := by decide +kernel
theorem dX9_put_187 : decode cX9_put 187 = .ok (.iadd, 1) := by decide +kernel
theorem dX9_put_188 : decode cX9_put 188 = .ok (.iastore, 1) := by decide +kernel
theorem dX9_put_189 : decode cX9_put 189 = .ok (.iconst 1, 1) := by decide +kernel
theorem dX9_put_190 : decode cX9_put 190 = .ok (.ireturn, 1) := by decide +kernel
set_option maxRecDepth 20000 in
theorem ggX9_character_X9_put : GoodIn wsX9_character wsX9_put := goodIn_r _ [7, 8, 9, 10, 11, 12, 13, 14, 15, 6, 16, 17, 31, 32, 33, 34, 35, 36, 37, 38, 39, 40, 41, 42, 43, 44, 45, 46, 47, 48, 49, 50, 51, 52, 53, 54, 55, 56, 57, 58, 59, 60] (by decide +kernel) (by decide +kernel)
set_option maxRecDepth 20000 in
theorem gX9_character_X9_put : GoodIn wsX9_character (wsV RX9 98 RX9 yX9_put wsX9_put) := goodIn_app (goodIn_of _ (by decide +kernel)) ggX9_character_X9_put
set_option maxRecDepth 20000 in
theorem ggX9_character_X9_rounded : GoodIn wsX9_character wsX9_rounded := goodIn_r _ [21, 17, 22, 31, 32, 33, 34, 35, 36, 37, 38, 39, 40, 41, 42, 43, 44, 45, 46, 47, 48, 49, 50, 51, 52, 53, 54, 55, 56, 57, 58, 59, 60] (by decide +kernel) (by decide +kernel)
set_option maxRecDepth 20000 in
theorem gX9_character_X9_rounded : GoodIn wsX9_character (wsV RX9 79 RX9 yX9_rounded wsX9_rounded) := goodIn_app (goodIn_of _ (by decide +kernel)) ggX9_character_X9_rounded
set_option maxRecDepth 20000 in
theorem ggX9_character_X9_goOn : GoodIn wsX9_character wsX9_goOn := goodIn_r _ [26, 10, 27, 28, 29, 6, 30, 18, 19, 20, 21, 17, 22, 31, 32, 33, 34, 35, 36, 37, 38, 39, 40, 41, 42, 43, 44, 45, 46, 47, 48, 49, 50, 51, 52, 53, 54, 55, 56, 57, 58, 59, 60] (by decide +kernel) (by decide +kernel)
set_option maxRecDepth 20000 in
theorem gX9_character_X9_goOn : GoodIn wsX9_character (wsV RX9 102 RX9 yX9_goOn wsX9_goOn) := goodIn_app (goodIn_of _ (by decide +kernel)) ggX9_character_X9_goOn
theorem dX9_character_0 : decode cX9_character 0 = .ok (.aload_n 0, 1) := by decide +kernel
theorem dX9_character_1 : decode cX9_character 1 = .ok (.getfield 82, 3) := by decide +kernel
theorem dX9_character_4 : decode cX9_character 4 = .ok (.ifCond .lt 22, 3) := by decide +kernel
theorem dX9_character_7 : decode cX9_character 7 = .ok (.iload_n 1, 1) := by decide +kernel
theorem dX9_character_8 : decode cX9_character 8 = .ok (.bipush 127, 2) := by decide +kernel
theorem dX9_character_10 : decode cX9_character 10 = .ok (.if_icmp .gt 16, 3) := by decide +kernel
theorem dX9_character_13 : decode cX9_character 13 = .ok (.aload_n 0, 1) := by decide +kernel
theorem dX9_character_14 : decode cX9_character 14 = .ok (.iload_n 1, 1) := by decide +kernel
theorem dX9_character_15 : decode cX9_character 15 = .ok (.aload_n 0, 1) := by decide +kernel
theorem dX9_character_16 : decode cX9_character 16 = .ok (.getfield 82, 3) := by decide +kernel
theorem dX9_character_19 : decode cX9_character 19 = .ok (.iconst 0, 1) := by decide +kernel
theorem dX9_character_20 : decode cX9_character 20 = .ok (.invokevirtual 98, 3) := by decide +kernel
theorem dX9_character_23 : decode cX9_character 23 = .ok (.ifCond .ne 5, 3) := by decide +kernel
theorem dX9_character_26 : decode cX9_character 26 = .ok (.iconst 0, 1) := by decide +kernel
theorem dX9_character_27 : decode cX9_character 27 = .ok (.ireturn, 1) := by decide +kernel
theorem dX9_character_28 : decode cX9_character 28 = .ok (.aload_n 0, 1) := by decide +kernel
theorem dX9_character_29 : decode cX9_character 29 = .ok (.getfield 13, 3) := by decide +kernel
theorem dX9_character_32 : decode cX9_character 32 = .ok (.sipush 128, 3) := by decide +kernel
theorem dX9_character_35 : decode cX9_character 35 = .ok (.aload_n 0, 1) := by decide +kernel
theorem dX9_character_36 : decode cX9_character 36 = .ok (.getfield 82, 3) := by decide +kernel
theorem dX9_character_39 : decode cX9_character 39 = .ok (.imul, 1) := by decide +kernel
theorem dX9_character_40 : decode cX9_character 40 = .ok (.iload_n 1, 1) := by decide +kernel
theorem dX9_character_41 : decode cX9_character 41 = .ok (.iadd, 1) := by decide +kernel
theorem dX9_character_42 : decode cX9_character 42 = .ok (.iaload, 1) := by decide +kernel
theorem dX9_character_43 : decode cX9_character 43 = .ok (.istore_n 3, 1) := by decide +kernel
theorem dX9_character_44 : decode cX9_character 44 = .ok (.iload_n 2, 1) := by decide +kernel
theorem dX9_character_45 : decode cX9_character 45 = .ok (.ifCond .eq 13, 3) := by decide +kernel
theorem dX9_character_48 : decode cX9_character 48 = .ok (.aload_n 0, 1) := by decide +kernel
theorem dX9_character_49 : decode cX9_character 49 = .ok (.iload_n 3, 1) := by decide +kernel
theorem dX9_character_50 : decode cX9_character 50 = .ok (.aload_n 0, 1) := by decide +kernel
theorem dX9_character_51 : decode cX9_character 51 = .ok (.iload_n 3, 1) := by decide +kernel
theorem dX9_character_52 : decode cX9_character 52 = .ok (.invokevirtual 79, 3) := by decide +kernel
theorem dX9_character_55 : decode cX9_character 55 = .ok (.invokevirtual 102, 3) := by decide +kernel
theorem dX9_character_58 : decode cX9_character 58 = .ok (.iconst 1, 1) := by decide +kernel
theorem dX9_character_59 : decode cX9_character 59 = .ok (.ireturn, 1) := by decide +kernel
set_option maxRecDepth 20000 in
theorem ggX9_rule_X9_signedAt : GoodIn wsX9_rule wsX9_signedAt := goodIn_r _ [6, 7, 8, 9, 5, 10, 11, 39, 40, 41, 42, 43, 44, 45, 46, 47, 48, 49, 50, 51, 52, 53, 54, 55, 56, 57, 58, 59, 60, 61, 62, 63, 64, 65, 66, 67, 68] (by decide +kernel) (by decide +kernel)
set_option maxRecDepth 20000 in
theorem gX9_rule_X9_signedAt : GoodIn wsX9_rule (wsV RX9 108 RX9 yX9_signedAt wsX9_signedAt) := goodIn_app (goodIn_of _ (by decide +kernel)) ggX9_rule_X9_signedAt
set_option maxRecDepth 20000 in
theorem ggX9_rule_X9_put : GoodIn wsX9_rule wsX9_put := goodIn_r _ [15, 16, 17, 18, 19, 20, 21, 22, 23, 5, 24, 25, 39, 40, 41, 42, 43, 44, 45, 46, 47, 48, 49, 50, 51, 52, 53, 54, 55, 56, 57, 58, 59, 60, 61, 62, 63, 64, 65, 66, 67, 68] (by decide +kernel) (by decide +kernel)
set_option maxRecDepth 20000 in
theorem gX9_rule_X9_put : GoodIn wsX9_rule (wsV RX9 98 RX9 yX9_put wsX9_put) := goodIn_app (goodIn_of _ (by decide +kernel)) ggX9_rule_X9_put
set_option maxRecDepth 20000 in
theorem ggX9_rule_X9_upwards : GoodIn wsX9_rule wsX9_upwards := goodIn_r _ [24, 25, 39, 40, 41, 42, 43, 44, 45, 46, 47, 48, 49, 50, 51, 52, 53, 54, 55, 56, 57, 58, 59, 60, 61, 62, 63, 64, 65, 66, 67, 68] (by decide +kernel) (by decide +kernel)
set_option maxRecDepth 20000 in
theorem gX9_rule_X9_upwards : GoodIn wsX9_rule (wsV RX9 92 RX9 yX9_upwards wsX9_upwards) := goodIn_app (goodIn_of _ (by decide +kernel)) ggX9_rule_X9_upwards
set_option maxRecDepth 20000 in
theorem ggX9_rule_X9_rounded : GoodIn wsX9_rule wsX9_rounded := goodIn_r _ [29, 25, 30, 39, 40, 41, 42, 43, 44, 45, 46, 47, 48, 49, 50, 51, 52, 53, 54, 55, 56, 57, 58, 59, 60, 61, 62, 63, 64, 65, 66, 67, 68] (by decide +kernel) (by decide +kernel)
set_option maxRecDepth 20000 in
theorem gX9_rule_X9_rounded : GoodIn wsX9_rule (wsV RX9 79 RX9 yX9_rounded wsX9_rounded) := goodIn_app (goodIn_of _ (by decide +kernel)) ggX9_rule_X9_rounded
set_option maxRecDepth 20000 in
theorem ggX9_rule_X9_goOn : GoodIn wsX9_rule wsX9_goOn := goodIn_r _ [34, 18, 35, 36, 37, 5, 38, 26, 27, 28, 29, 25, 30, 39, 40, 41, 42, 43, 44, 45, 46, 47, 48, 49, 50, 51, 52, 53, 54, 55, 56, 57, 58, 59, 60, 61, 62, 63, 64, 65, 66, 67, 68] (by decide +kernel) (by decide +kernel)
set_option maxRecDepth 20000 in
theorem gX9_rule_X9_goOn : GoodIn wsX9_rule (wsV RX9 102 RX9 yX9_goOn wsX9_goOn) := goodIn_app (goodIn_of _ (by decide +kernel)) ggX9_rule_X9_goOn
theorem dX9_rule_0 : decode cX9_rule 0 = .ok (.aload_n 0, 1) := by decide +kernel
theorem dX9_rule_1 : decode cX9_rule 1 = .ok (.aload_n 0, 1) := by decide +kernel
theorem dX9_rule_2 : decode cX9_rule 2 = .ok (.getfield 105, 3) := by decide +kernel
theorem dX9_rule_5 : decode cX9_rule 5 = .ok (.iconst 1, 1) := by decide +kernel
theorem dX9_rule_6 : decode cX9_rule 6 = .ok (.iadd, 1) := by decide +kernel
theorem dX9_rule_7 : decode cX9_rule 7 = .ok (.iconst 2, 1) := by decide +kernel
theorem dX9_rule_8 : decode cX9_rule 8 = .ok (.invokevirtual 108, 3) := by decide +kernel
theorem dX9_rule_11 : decode cX9_rule 11 = .ok (.istore_n 2, 1) := by decide +kernel
theorem dX9_rule_12 : decode cX9_rule 12 = .ok (.aload_n 0, 1) := by decide +kernel
theorem dX9_rule_13 : decode cX9_rule 13 = .ok (.aload_n 0, 1) := by decide +kernel
theorem dX9_rule_14 : decode cX9_rule 14 = .ok (.getfield 105, 3) := by decide +kernel
theorem dX9_rule_17 : decode cX9_rule 17 = .ok (.iconst 3, 1) := by decide +kernel
theorem dX9_rule_18 : decode cX9_rule 18 = .ok (.iadd, 1) := by decide +kernel
theorem dX9_rule_19 : decode cX9_rule 19 = .ok (.iconst 2, 1) := by decide +kernel
theorem dX9_rule_20 : decode cX9_rule 20 = .ok (.invokevirtual 108, 3) := by decide +kernel
theorem dX9_rule_23 : decode cX9_rule 23 = .ok (.istore_n 3, 1) := by decide +kernel
theorem dX9_rule_24 : decode cX9_rule 24 = .ok (.iload_n 2, 1) := by decide +kernel
theorem dX9_rule_25 : decode cX9_rule 25 = .ok (.ifCond .le 21, 3) := by decide +kernel
theorem dX9_rule_28 : decode cX9_rule 28 = .ok (.iload_n 3, 1) := by decide +kernel
theorem dX9_rule_29 : decode cX9_rule 29 = .ok (.ifCond .le 17, 3) := by decide +kernel
theorem dX9_rule_32 : decode cX9_rule 32 = .ok (.aload_n 0, 1) := by decide +kernel
theorem dX9_rule_33 : decode cX9_rule 33 = .ok (.sipush 128, 3) := by decide +kernel
theorem dX9_rule_36 : decode cX9_rule 36 = .ok (.iload_n 2, 1) := by decide +kernel
theorem dX9_rule_37 : decode cX9_rule 37 = .ok (.iload_n 3, 1) := by decide +kernel
theorem dX9_rule_38 : decode cX9_rule 38 = .ok (.invokevirtual 98, 3) := by decide +kernel
theorem dX9_rule_41 : decode cX9_rule 41 = .ok (.ifCond .ne 5, 3) := by decide +kernel
theorem dX9_rule_44 : decode cX9_rule 44 = .ok (.iconst 0, 1) := by decide +kernel
theorem dX9_rule_45 : decode cX9_rule 45 = .ok (.ireturn, 1) := by decide +kernel
theorem dX9_rule_46 : decode cX9_rule 46 = .ok (.iload_n 1, 1) := by decide +kernel
theorem dX9_rule_47 : decode cX9_rule 47 = .ok (.ifCond .eq 25, 3) := by decide +kernel
theorem dX9_rule_50 : decode cX9_rule 50 = .ok (.aload_n 0, 1) := by decide +kernel
theorem dX9_rule_51 : decode cX9_rule 51 = .ok (.iload_n 3, 1) := by decide +kernel
theorem dX9_rule_52 : decode cX9_rule 52 = .ok (.iload_n 3, 1) := by decide +kernel
theorem dX9_rule_53 : decode cX9_rule 53 = .ok (.ifCond .le 11, 3) := by decide +kernel
theorem dX9_rule_56 : decode cX9_rule 56 = .ok (.aload_n 0, 1) := by decide +kernel
theorem dX9_rule_57 : decode cX9_rule 57 = .ok (.iload_n 3, 1) := by decide +kernel
theorem dX9_rule_58 : decode cX9_rule 58 = .ok (.invokevirtual 92, 3) := by decide +kernel
theorem dX9_rule_61 : decode cX9_rule 61 = .ok (.goto 8, 3) := by decide +kernel
theorem dX9_rule_64 : decode cX9_rule 64 = .ok (.aload_n 0, 1) := by decide +kernel
theorem dX9_rule_65 : decode cX9_rule 65 = .ok (.iload_n 3, 1) := by decide +kernel
theorem dX9_rule_66 : decode cX9_rule 66 = .ok (.invokevirtual 79, 3) := by decide +kernel
theorem dX9_rule_69 : decode cX9_rule 69 = .ok (.invokevirtual 102, 3) := by decide +kernel
theorem dX9_rule_72 : decode cX9_rule 72 = .ok (.iconst 1, 1) := by decide +kernel
theorem dX9_rule_73 : decode cX9_rule 73 = .ok (.ireturn, 1) := by decide +kernel
theorem dX9_push_0 : decode cX9_push 0 = .ok (.aload_n 0, 1) := by decide +kernel
theorem dX9_push_1 : decode cX9_push 1 = .ok (.getfield 111, 3) := by decide +kernel
theorem dX9_push_4 : decode cX9_push 4 = .ok (.bipush 20, 2) := by decide +kernel
theorem dX9_push_6 : decode cX9_push 6 = .ok (.if_icmp .ne 5, 3) := by decide +kernel
theorem dX9_push_9 : decode cX9_push 9 = .ok (.iconst 0, 1) := by decide +kernel
theorem dX9_push_10 : decode cX9_push 10 = .ok (.ireturn, 1) := by decide +kernel
theorem dX9_push_11 : decode cX9_push 11 = .ok (.iconst 0, 1) := by decide +kernel
theorem dX9_push_12 : decode cX9_push 12 = .ok (.istore_n 1, 1) := by decide +kernel
theorem dX9_push_13 : decode cX9_push 13 = .ok (.iload_n 1, 1) := by decide +kernel
theorem dX9_push_14 : decode cX9_push 14 = .ok (.bipush 8, 2) := by decide +kernel
theorem dX9_push_16 : decode cX9_push 16 = .ok (.if_icmp .ge 29, 3) := by decide +kernel
theorem dX9_push_19 : decode cX9_push 19 = .ok (.aload_n 0, 1) := by decide +kernel
theorem dX9_push_20 : decode cX9_push 20 = .ok (.getfield 51, 3) := by decide +kernel
theorem dX9_push_23 : decode cX9_push 23 = .ok (.bipush 8, 2) := by decide +kernel
theorem dX9_push_25 : decode cX9_push 25 = .ok (.aload_n 0, 1) := by decide +kernel
theorem dX9_push_26 : decode cX9_push 26 = .ok (.getfield 111, 3) := by decide +kernel
theorem dX9_push_29 : decode cX9_push 29 = .ok (.imul, 1) := by decide +kernel
theorem dX9_push_30 : decode cX9_push 30 = .ok (.iload_n 1, 1) := by decide +kernel
theorem dX9_push_31 : decode cX9_push 31 = .ok (.iadd, 1) := by decide +kernel
theorem dX9_push_32 : decode cX9_push 32 = .ok (.aload_n 0, 1) := by decide +kernel
theorem dX9_push_33 : decode cX9_push 33 = .ok (.getfield 48, 3) := by decide +kernel
theorem dX9_push_36 : decode cX9_push 36 = .ok (.iload_n 1, 1) := by decide +kernel
theorem dX9_push_37 : decode cX9_push 37 = .ok (.iaload, 1) := by decide +kernel
theorem dX9_push_38 : decode cX9_push 38 = .ok (.iastore, 1) := by decide +kernel
theorem dX9_push_39 : decode cX9_push 39 = .ok (.iinc 1 1, 3) := by decide +kernel
theorem dX9_push_42 : decode cX9_push 42 = .ok (.goto (-29), 3) := by decide +kernel
theorem dX9_push_45 : decode cX9_push 45 = .ok (.aload_n 0, 1) := by decide +kernel
theorem dX9_push_46 : decode cX9_push 46 = .ok (.dup, 1) := by decide +kernel
theorem dX9_push_47 : decode cX9_push 47 = .ok (.getfield 111, 3) := by decide +kernel
theorem dX9_push_50 : decode cX9_push 50 = .ok (.iconst 1, 1) := by decide +kernel
theorem dX9_push_51 : decode cX9_push 51 = .ok (.iadd, 1) := by decide +kernel
theorem dX9_push_52 : decode cX9_push 52 = .ok (.putfield 111, 3) := by decide +kernel
theorem dX9_push_55 : decode cX9_push 55 = .ok (.aload_n 0, 1) := by decide +kernel
theorem dX9_push_56 : decode cX9_push 56 = .ok (.aload_n 0, 1) := by decide +kernel
theorem dX9_push_57 : decode cX9_push 57 = .ok (.getfield 111, 3) := by decide +kernel
theorem dX9_push_60 : decode cX9_push 60 = .ok (.aload_n 0, 1) := by decide +kernel
theorem dX9_push_61 : decode cX9_push 61 = .ok (.getfield 114, 3) := by decide +kernel
theorem dX9_push_64 : decode cX9_push 64 = .ok (.if_icmp .le 10, 3) := by decide +kernel
theorem dX9_push_67 : decode cX9_push 67 = .ok (.aload_n 0, 1) := by decide +kernel
theorem dX9_push_68 : decode cX9_push 68 = .ok (.getfield 111, 3) := by decide +kernel
theorem dX9_push_71 : decode cX9_push 71 = .ok (.goto 7, 3) := by decide +kernel
theorem dX9_push_74 : decode cX9_push 74 = .ok (.aload_n 0, 1) := by decide +kernel
theorem dX9_push_75 : decode cX9_push 75 = .ok (.getfield 114, 3) := by decide +kernel
theorem dX9_push_78 : decode cX9_push 78 = .ok (.putfield 114, 3) := by decide +kernel
theorem dX9_push_81 : decode cX9_push 81 = .ok (.iconst 1, 1) := by decide +kernel
theorem dX9_push_82 : decode cX9_push 82 = .ok (.ireturn, 1) := by decide +kernel
theorem dX9_pop_0 : decode cX9_pop 0 = .ok (.aload_n 0, 1) := by decide +kernel
theorem dX9_pop_1 : decode cX9_pop 1 = .ok (.getfield 111, 3) := by decide +kernel
theorem dX9_pop_4 : decode cX9_pop 4 = .ok (.ifCond .ne 5, 3) := by decide +kernel
theorem dX9_pop_7 : decode cX9_pop 7 = .ok (.iconst 0, 1) := by decide +kernel
theorem dX9_pop_8 : decode cX9_pop 8 = .ok (.ireturn, 1) := by decide +kernel
theorem dX9_pop_9 : decode cX9_pop 9 = .ok (.aload_n 0, 1) := by decide +kernel
theorem dX9_pop_10 : decode cX9_pop 10 = .ok (.dup, 1) := by decide +kernel
theorem dX9_pop_11 : decode cX9_pop 11 = .ok (.getfield 111, 3) := by decide +kernel
theorem dX9_pop_14 : decode cX9_pop 14 = .ok (.iconst 1, 1) := by decide +kernel
theorem dX9_pop_15 : decode cX9_pop 15 = .ok (.isub, 1) := by decide +kernel
theorem dX9_pop_16 : decode cX9_pop 16 = .ok (.putfield 111, 3) := by decide +kernel
theorem dX9_pop_19 : decode cX9_pop 19 = .ok (.iconst 0, 1) := by decide +kernel
theorem dX9_pop_20 : decode cX9_pop 20 = .ok (.istore_n 1, 1) := by decide +kernel
theorem dX9_pop_21 : decode cX9_pop 21 = .ok (.iload_n 1, 1) := by decide +kernel
theorem dX9_pop_22 : decode cX9_pop 22 = .ok (.bipush 8, 2) := by decide +kernel
theorem dX9_pop_24 : decode cX9_pop 24 = .ok (.if_icmp .ge 29, 3) := by decide +kernel
theorem dX9_pop_27 : decode cX9_pop 27 = .ok (.aload_n 0, 1) := by decide +kernel
theorem dX9_pop_28 : decode cX9_pop 28 = .ok (.getfield 48, 3) := by decide +kernel
theorem dX9_pop_31 : decode cX9_pop 31 = .ok (.iload_n 1, 1) := by decide +kernel
theorem dX9_pop_32 : decode cX9_pop 32 = .ok (.aload_n 0, 1) := by decide +kernel
theorem dX9_pop_33 : decode cX9_pop 33 = .ok (.getfield 51, 3) := by decide +kernel
theorem dX9_pop_36 : decode cX9_pop 36 = .ok (.bipush 8, 2) := by decide +kernel
theorem dX9_pop_38 : decode cX9_pop 38 = .ok (.aload_n 0, 1) := by decide +kernel
theorem dX9_pop_39 : decode cX9_pop 39 = .ok (.getfield 111, 3) := by decide +kernel
theorem dX9_pop_42 : decode cX9_pop 42 = .ok (.imul, 1) := by decide +kernel
theorem dX9_pop_43 : decode cX9_pop 43 = .ok (.iload_n 1, 1) := by decide +kernel
theorem dX9_pop_44 : decode cX9_pop 44 = .ok (.iadd, 1) := by decide +kernel
theorem dX9_pop_45 : decode cX9_pop 45 = .ok (.iaload, 1) := by decide +kernel
theorem dX9_pop_46 : decode cX9_pop 46 = .ok (.iastore, 1) := by decide +kernel
theorem dX9_pop_47 : decode cX9_pop 47 = .ok (.iinc 1 1, 3) := by decide +kernel
theorem dX9_pop_50 : decode cX9_pop 50 = .ok (.goto (-29), 3) := by decide +kernel
theorem dX9_pop_53 : decode cX9_pop 53 = .ok (.iconst 1, 1) := by decide +kernel
theorem dX9_pop_54 : decode cX9_pop 54 = .ok (.ireturn, 1) := by decide +kernel
theorem dX9_choose_0 : decode cX9_choose 0 = .ok (.aload_n 0, 1) := by decide +kernel
theorem dX9_choose_1 : decode cX9_choose 1 = .ok (.getfield 16, 3) := by decide +kernel
theorem dX9_choose_4 : decode cX9_choose 4 = .ok (.iload_n 1, 1) := by decide +kernel
theorem dX9_choose_5 : decode cX9_choose 5 = .ok (.baload, 1) := by decide +kernel
theorem dX9_choose_6 : decode cX9_choose 6 = .ok (.ifCond .ne 5, 3) := by decide +kernel
theorem dX9_choose_9 : decode cX9_choose 9 = .ok (.iconst 0, 1) := by decide +kernel
theorem dX9_choose_10 : decode cX9_choose 10 = .ok (.ireturn, 1) := by decide +kernel
theorem dX9_choose_11 : decode cX9_choose 11 = .ok (.aload_n 0, 1) := by decide +kernel
theorem dX9_choose_12 : decode cX9_choose 12 = .ok (.iload_n 1, 1) := by decide +kernel
theorem dX9_choose_13 : decode cX9_choose 13 = .ok (.putfield 82, 3) := by decide +kernel
theorem dX9_choose_16 : decode cX9_choose 16 = .ok (.iconst 1, 1) := by decide +kernel
theorem dX9_choose_17 : decode cX9_choose 17 = .ok (.ireturn, 1) := by decide +kernel
set_option maxRecDepth 20000 in
theorem ggX9_kept_X9_signedAt : GoodIn wsX9_kept wsX9_signedAt := goodIn_r _ [7, 8, 9, 10, 6, 11, 12, 33, 34, 35, 36, 37, 38, 39, 40, 41, 42, 43, 44, 45, 46, 47, 48, 49, 50, 51, 52, 53, 54, 55, 56, 57, 58, 59, 60, 61, 62] (by decide +kernel) (by decide +kernel)
set_option maxRecDepth 20000 in
theorem gX9_kept_X9_signedAt : GoodIn wsX9_kept (wsV RX9 108 RX9 yX9_signedAt wsX9_signedAt) := goodIn_app (goodIn_of _ (by decide +kernel)) ggX9_kept_X9_signedAt
set_option maxRecDepth 20000 in
theorem ggX9_kept_X9_right : GoodIn wsX9_kept wsX9_right := goodIn_r _ [16, 17, 18, 1, 19, 20, 21, 6, 22, 23, 24, 25, 26, 27, 28, 33, 34, 35, 36, 37, 38, 39, 40, 41, 42, 43, 44, 45, 46, 47, 48, 49, 50, 51, 52, 53, 54, 55, 56, 57, 58, 59, 60, 61, 62] (by decide +kernel) (by decide +kernel)
set_option maxRecDepth 20000 in
theorem gX9_kept_X9_right : GoodIn wsX9_kept (wsV RX9 117 RX9 yX9_right wsX9_right) := goodIn_app (goodIn_of _ (by decide +kernel)) ggX9_kept_X9_right
set_option maxRecDepth 20000 in
theorem ggX9_kept_X9_down : GoodIn wsX9_kept wsX9_down := goodIn_r _ [32, 17, 18, 1, 19, 20, 21, 6, 22, 23, 24, 25, 26, 27, 28, 33, 34, 35, 36, 37, 38, 39, 40, 41, 42, 43, 44, 45, 46, 47, 48, 49, 50, 51, 52, 53, 54, 55, 56, 57, 58, 59, 60, 61, 62] (by decide +kernel) (by decide +kernel)
set_option maxRecDepth 20000 in
theorem gX9_kept_X9_down : GoodIn wsX9_kept (wsV RX9 121 RX9 yX9_down wsX9_down) := goodIn_app (goodIn_of _ (by decide +kernel)) ggX9_kept_X9_down
theorem dX9_kept_0 : decode cX9_kept 0 = .ok (.iload_n 2, 1) := by decide +kernel
theorem dX9_kept_1 : decode cX9_kept 1 = .ok (.ifCond .le 20, 3) := by decide +kernel
theorem dX9_kept_4 : decode cX9_kept 4 = .ok (.aload_n 0, 1) := by decide +kernel
theorem dX9_kept_5 : decode cX9_kept 5 = .ok (.getfield 48, 3) := by decide +kernel
theorem dX9_kept_8 : decode cX9_kept 8 = .ok (.iload_n 1, 1) := by decide +kernel
theorem dX9_kept_9 : decode cX9_kept 9 = .ok (.aload_n 0, 1) := by decide +kernel
theorem dX9_kept_10 : decode cX9_kept 10 = .ok (.aload_n 0, 1) := by decide +kernel
theorem dX9_kept_11 : decode cX9_kept 11 = .ok (.getfield 105, 3) := by decide +kernel
theorem dX9_kept_14 : decode cX9_kept 14 = .ok (.iconst 1, 1) := by decide +kernel
theorem dX9_kept_15 : decode cX9_kept 15 = .ok (.iadd, 1) := by decide +kernel
theorem dX9_kept_16 : decode cX9_kept 16 = .ok (.iload_n 2, 1) := by decide +kernel
theorem dX9_kept_17 : decode cX9_kept 17 = .ok (.invokevirtual 108, 3) := by decide +kernel
theorem dX9_kept_20 : decode cX9_kept 20 = .ok (.iastore, 1) := by decide +kernel
theorem dX9_kept_21 : decode cX9_kept 21 = .ok (.iload_n 1, 1) := by decide +kernel
theorem dX9_kept_22 : decode cX9_kept 22 = .ok (.iconst 4, 1) := by decide +kernel
theorem dX9_kept_23 : decode cX9_kept 23 = .ok (.if_icmp .ge 16, 3) := by decide +kernel
theorem dX9_kept_26 : decode cX9_kept 26 = .ok (.aload_n 0, 1) := by decide +kernel
theorem dX9_kept_27 : decode cX9_kept 27 = .ok (.aload_n 0, 1) := by decide +kernel
theorem dX9_kept_28 : decode cX9_kept 28 = .ok (.getfield 48, 3) := by decide +kernel
theorem dX9_kept_31 : decode cX9_kept 31 = .ok (.iload_n 1, 1) := by decide +kernel
theorem dX9_kept_32 : decode cX9_kept 32 = .ok (.iaload, 1) := by decide +kernel
theorem dX9_kept_33 : decode cX9_kept 33 = .ok (.invokevirtual 117, 3) := by decide +kernel
theorem dX9_kept_36 : decode cX9_kept 36 = .ok (.goto 13, 3) := by decide +kernel
theorem dX9_kept_39 : decode cX9_kept 39 = .ok (.aload_n 0, 1) := by decide +kernel
theorem dX9_kept_40 : decode cX9_kept 40 = .ok (.aload_n 0, 1) := by decide +kernel
theorem dX9_kept_41 : decode cX9_kept 41 = .ok (.getfield 48, 3) := by decide +kernel
theorem dX9_kept_44 : decode cX9_kept 44 = .ok (.iload_n 1, 1) := by decide +kernel
theorem dX9_kept_45 : decode cX9_kept 45 = .ok (.iaload, 1) := by decide +kernel
theorem dX9_kept_46 : decode cX9_kept 46 = .ok (.invokevirtual 121, 3) := by decide +kernel
theorem dX9_kept_49 : decode cX9_kept 49 = .ok (.iconst 1, 1) := by decide +kernel
theorem dX9_kept_50 : decode cX9_kept 50 = .ok (.ireturn, 1) := by decide +kernel
set_option maxRecDepth 20000 in
theorem ggX9_moves_X9_movesBehind : GoodIn wsX9_moves wsX9_movesBehind := goodIn_r _ [5] (by decide +kernel) (by decide +kernel)
set_option maxRecDepth 20000 in
theorem gX9_moves_X9_movesBehind : GoodIn wsX9_moves (va_wsS RX9 70 yX9_movesBehind wsX9_movesBehind) := goodIn_app (goodIn_of _ (by decide +kernel)) ggX9_moves_X9_movesBehind
set_option maxRecDepth 20000 in
theorem ggX9_moves_X9_signedAt : GoodIn wsX9_moves wsX9_signedAt := goodIn_r _ [9, 10, 11, 12, 4, 13, 14, 40, 41, 42, 43, 44, 45, 46, 47, 48, 49, 50, 51, 52, 53, 54, 55, 56, 57, 58, 59, 60, 61, 62, 63, 64, 65, 66, 67, 68, 69] (by decide +kernel) (by decide +kernel)
set_option maxRecDepth 20000 in
theorem gX9_moves_X9_signedAt : GoodIn wsX9_moves (wsV RX9 108 RX9 yX9_signedAt wsX9_signedAt) := goodIn_app (goodIn_of _ (by decide +kernel)) ggX9_moves_X9_signedAt
set_option maxRecDepth 20000 in
theorem ggX9_moves_X9_right : GoodIn wsX9_moves wsX9_right := goodIn_r _ [18, 19, 20, 21, 22, 23, 24, 4, 25, 26, 27, 28, 29, 30, 31, 40, 41, 42, 43, 44, 45, 46, 47, 48, 49, 50, 51, 52, 53, 54, 55, 56, 57, 58, 59, 60, 61, 62, 63, 64, 65, 66, 67, 68, 69] (by decide +kernel) (by decide +kernel)
set_option maxRecDepth 20000 in
theorem gX9_moves_X9_right : GoodIn wsX9_moves (wsV RX9 117 RX9 yX9_right wsX9_right) := goodIn_app (goodIn_of _ (by decide +kernel)) ggX9_moves_X9_right
set_option maxRecDepth 20000 in
theorem ggX9_moves_X9_down : GoodIn wsX9_moves wsX9_down := goodIn_r _ [35, 19, 20, 21, 22, 23, 24, 4, 25, 26, 27, 28, 29, 30, 31, 40, 41, 42, 43, 44, 45, 46, 47, 48, 49, 50, 51, 52, 53, 54, 55, 56, 57, 58, 59, 60, 61, 62, 63, 64, 65, 66, 67, 68, 69] (by decide +kernel) (by decide +kernel)
set_option maxRecDepth 20000 in
theorem gX9_moves_X9_down : GoodIn wsX9_moves (wsV RX9 121 RX9 yX9_down wsX9_down) := goodIn_app (goodIn_of _ (by decide +kernel)) ggX9_moves_X9_down
set_option maxRecDepth 20000 in
theorem ggX9_moves_X9_kept : GoodIn wsX9_moves wsX9_kept := goodIn_r _ [39, 21, 1, 6, 7, 8, 4, 9, 10, 11, 12, 13, 14, 15, 16, 17, 18, 19, 20, 22, 23, 24, 25, 26, 27, 28, 29, 30, 31, 32, 33, 34, 35, 40, 41, 42, 43, 44, 45, 46, 47, 48, 49, 50, 51, 52, 53, 54, 55, 56, 57, 58, 59, 60, 61, 62, 63, 64, 65, 66, 67, 68, 69] (by decide +kernel) (by decide +kernel)
set_option maxRecDepth 20000 in
theorem gX9_moves_X9_kept : GoodIn wsX9_moves (wsV RX9 124 RX9 yX9_kept wsX9_kept) := goodIn_app (goodIn_of _ (by decide +kernel)) ggX9_moves_X9_kept
theorem dX9_moves_0 : decode cX9_moves 0 = .ok (.iload_n 1, 1) := by decide +kernel
theorem dX9_moves_1 : decode cX9_moves 1 = .ok (.invokestatic 70, 3) := by decide +kernel
theorem dX9_moves_4 : decode cX9_moves 4 = .ok (.istore_n 2, 1) := by decide +kernel
theorem dX9_moves_5 : decode cX9_moves 5 = .ok (.iload_n 1, 1) := by decide +kernel
theorem dX9_moves_6 : decode cX9_moves 6 = .ok (.sipush 138, 3) := by decide +kernel
theorem dX9_moves_9 : decode cX9_moves 9 = .ok (.if_icmp .gt 21, 3) := by decide +kernel
theorem dX9_moves_12 : decode cX9_moves 12 = .ok (.aload_n 0, 1) := by decide +kernel
theorem dX9_moves_13 : decode cX9_moves 13 = .ok (.aload_n 0, 1) := by decide +kernel
theorem dX9_moves_14 : decode cX9_moves 14 = .ok (.aload_n 0, 1) := by decide +kernel
theorem dX9_moves_15 : decode cX9_moves 15 = .ok (.getfield 105, 3) := by decide +kernel
theorem dX9_moves_18 : decode cX9_moves 18 = .ok (.iconst 1, 1) := by decide +kernel
theorem dX9_moves_19 : decode cX9_moves 19 = .ok (.iadd, 1) := by decide +kernel
theorem dX9_moves_20 : decode cX9_moves 20 = .ok (.iload_n 2, 1) := by decide +kernel
theorem dX9_moves_21 : decode cX9_moves 21 = .ok (.invokevirtual 108, 3) := by decide +kernel
theorem dX9_moves_24 : decode cX9_moves 24 = .ok (.invokevirtual 117, 3) := by decide +kernel
theorem dX9_moves_27 : decode cX9_moves 27 = .ok (.goto 75, 3) := by decide +kernel
theorem dX9_moves_30 : decode cX9_moves 30 = .ok (.iload_n 1, 1) := by decide +kernel
theorem dX9_moves_31 : decode cX9_moves 31 = .ok (.sipush 147, 3) := by decide +kernel
theorem dX9_moves_34 : decode cX9_moves 34 = .ok (.if_icmp .lt 28, 3) := by decide +kernel
theorem dX9_moves_37 : decode cX9_moves 37 = .ok (.iload_n 1, 1) := by decide +kernel
theorem dX9_moves_38 : decode cX9_moves 38 = .ok (.sipush 149, 3) := by decide +kernel
theorem dX9_moves_41 : decode cX9_moves 41 = .ok (.if_icmp .gt 21, 3) := by decide +kernel
theorem dX9_moves_44 : decode cX9_moves 44 = .ok (.aload_n 0, 1) := by decide +kernel
theorem dX9_moves_45 : decode cX9_moves 45 = .ok (.aload_n 0, 1) := by decide +kernel
theorem dX9_moves_46 : decode cX9_moves 46 = .ok (.aload_n 0, 1) := by decide +kernel
theorem dX9_moves_47 : decode cX9_moves 47 = .ok (.getfield 105, 3) := by decide +kernel
theorem dX9_moves_50 : decode cX9_moves 50 = .ok (.iconst 1, 1) := by decide +kernel
theorem dX9_moves_51 : decode cX9_moves 51 = .ok (.iadd, 1) := by decide +kernel
theorem dX9_moves_52 : decode cX9_moves 52 = .ok (.iload_n 2, 1) := by decide +kernel
theorem dX9_moves_53 : decode cX9_moves 53 = .ok (.invokevirtual 108, 3) := by decide +kernel
theorem dX9_moves_56 : decode cX9_moves 56 = .ok (.invokevirtual 121, 3) := by decide +kernel
theorem dX9_moves_59 : decode cX9_moves 59 = .ok (.goto 43, 3) := by decide +kernel
theorem dX9_moves_62 : decode cX9_moves 62 = .ok (.aload_n 0, 1) := by decide +kernel
theorem dX9_moves_63 : decode cX9_moves 63 = .ok (.iload_n 1, 1) := by decide +kernel
theorem dX9_moves_64 : decode cX9_moves 64 = .ok (.sipush 142, 3) := by decide +kernel
theorem dX9_moves_67 : decode cX9_moves 67 = .ok (.if_icmp .gt 7, 3) := by decide +kernel
theorem dX9_moves_70 : decode cX9_moves 70 = .ok (.iconst 2, 1) := by decide +kernel
theorem dX9_moves_71 : decode cX9_moves 71 = .ok (.goto 26, 3) := by decide +kernel
theorem dX9_moves_74 : decode cX9_moves 74 = .ok (.iload_n 1, 1) := by decide +kernel
theorem dX9_moves_75 : decode cX9_moves 75 = .ok (.sipush 146, 3) := by decide +kernel
theorem dX9_moves_78 : decode cX9_moves 78 = .ok (.if_icmp .gt 7, 3) := by decide +kernel
theorem dX9_moves_81 : decode cX9_moves 81 = .ok (.iconst 3, 1) := by decide +kernel
theorem dX9_moves_82 : decode cX9_moves 82 = .ok (.goto 15, 3) := by decide +kernel
theorem dX9_moves_85 : decode cX9_moves 85 = .ok (.iload_n 1, 1) := by decide +kernel
theorem dX9_moves_86 : decode cX9_moves 86 = .ok (.sipush 153, 3) := by decide +kernel
theorem dX9_moves_89 : decode cX9_moves 89 = .ok (.if_icmp .gt 7, 3) := by decide +kernel
theorem dX9_moves_92 : decode cX9_moves 92 = .ok (.iconst 4, 1) := by decide +kernel
theorem dX9_moves_93 : decode cX9_moves 93 = .ok (.goto 4, 3) := by decide +kernel
theorem dX9_moves_96 : decode cX9_moves 96 = .ok (.iconst 5, 1) := by decide +kernel
theorem dX9_moves_97 : decode cX9_moves 97 = .ok (.iload_n 2, 1) := by decide +kernel
theorem dX9_moves_98 : decode cX9_moves 98 = .ok (.invokevirtual 124, 3) := by decide +kernel
theorem dX9_moves_101 : decode cX9_moves 101 = .ok (.pop, 1) := by decide +kernel
theorem dX9_moves_102 : decode cX9_moves 102 = .ok (.iconst 1, 1) := by decide +kernel
