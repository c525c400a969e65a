theorem dX9_moves_103 : decode cX9_moves 103 = .ok (.ireturn, 1) := by decide +kernel
set_option maxRecDepth 20000 in
theorem ggX9_define_X9_numberAt : GoodIn wsX9_define wsX9_numberAt := goodIn_r _ [12, 1, 13, 14, 15, 16, 17, 18, 19, 20, 21, 22, 23, 24, 25, 26, 27, 28, 29, 30, 31, 32, 33, 34, 35, 36, 37, 38, 39, 40, 41, 42] (by decide +kernel) (by decide +kernel)
set_option maxRecDepth 20000 in
theorem gX9_define_X9_numberAt : GoodIn wsX9_define (wsV RX9 66 RX9 yX9_numberAt wsX9_numberAt) := goodIn_app (goodIn_of _ (by decide +kernel)) ggX9_define_X9_numberAt
theorem dX9_define_0 : decode cX9_define 0 = .ok (.aload_n 0, 1) := by decide +kernel
theorem dX9_define_1 : decode cX9_define 1 = .ok (.getfield 7, 3) := by decide +kernel
theorem dX9_define_4 : decode cX9_define 4 = .ok (.aload_n 0, 1) := by decide +kernel
theorem dX9_define_5 : decode cX9_define 5 = .ok (.getfield 105, 3) := by decide +kernel
theorem dX9_define_8 : decode cX9_define 8 = .ok (.iconst 1, 1) := by decide +kernel
theorem dX9_define_9 : decode cX9_define 9 = .ok (.iadd, 1) := by decide +kernel
theorem dX9_define_10 : decode cX9_define 10 = .ok (.iaload, 1) := by decide +kernel
theorem dX9_define_11 : decode cX9_define 11 = .ok (.istore_n 1, 1) := by decide +kernel
theorem dX9_define_12 : decode cX9_define 12 = .ok (.aload_n 0, 1) := by decide +kernel
theorem dX9_define_13 : decode cX9_define 13 = .ok (.aload_n 0, 1) := by decide +kernel
theorem dX9_define_14 : decode cX9_define 14 = .ok (.getfield 105, 3) := by decide +kernel
theorem dX9_define_17 : decode cX9_define 17 = .ok (.iconst 2, 1) := by decide +kernel
theorem dX9_define_18 : decode cX9_define 18 = .ok (.iadd, 1) := by decide +kernel
theorem dX9_define_19 : decode cX9_define 19 = .ok (.iconst 2, 1) := by decide +kernel
theorem dX9_define_20 : decode cX9_define 20 = .ok (.invokevirtual 66, 3) := by decide +kernel
theorem dX9_define_23 : decode cX9_define 23 = .ok (.istore_n 2, 1) := by decide +kernel
theorem dX9_define_24 : decode cX9_define 24 = .ok (.aload_n 0, 1) := by decide +kernel
theorem dX9_define_25 : decode cX9_define 25 = .ok (.aload_n 0, 1) := by decide +kernel
theorem dX9_define_26 : decode cX9_define 26 = .ok (.getfield 105, 3) := by decide +kernel
theorem dX9_define_29 : decode cX9_define 29 = .ok (.iconst 4, 1) := by decide +kernel
theorem dX9_define_30 : decode cX9_define 30 = .ok (.iadd, 1) := by decide +kernel
theorem dX9_define_31 : decode cX9_define 31 = .ok (.iconst 2, 1) := by decide +kernel
theorem dX9_define_32 : decode cX9_define 32 = .ok (.invokevirtual 66, 3) := by decide +kernel
theorem dX9_define_35 : decode cX9_define 35 = .ok (.istore_n 3, 1) := by decide +kernel
theorem dX9_define_36 : decode cX9_define 36 = .ok (.iload_n 1, 1) := by decide +kernel
theorem dX9_define_37 : decode cX9_define 37 = .ok (.bipush 7, 2) := by decide +kernel
theorem dX9_define_39 : decode cX9_define 39 = .ok (.if_icmp .le 5, 3) := by decide +kernel
theorem dX9_define_42 : decode cX9_define 42 = .ok (.iconst 0, 1) := by decide +kernel
theorem dX9_define_43 : decode cX9_define 43 = .ok (.ireturn, 1) := by decide +kernel
theorem dX9_define_44 : decode cX9_define 44 = .ok (.aload_n 0, 1) := by decide +kernel
theorem dX9_define_45 : decode cX9_define 45 = .ok (.getfield 128, 3) := by decide +kernel
theorem dX9_define_48 : decode cX9_define 48 = .ok (.iconst 3, 1) := by decide +kernel
theorem dX9_define_49 : decode cX9_define 49 = .ok (.if_icmp .ne 58, 3) := by decide +kernel
theorem dX9_define_52 : decode cX9_define 52 = .ok (.aload_n 0, 1) := by decide +kernel
theorem dX9_define_53 : decode cX9_define 53 = .ok (.getfield 16, 3) := by decide +kernel
theorem dX9_define_56 : decode cX9_define 56 = .ok (.iload_n 1, 1) := by decide +kernel
theorem dX9_define_57 : decode cX9_define 57 = .ok (.baload, 1) := by decide +kernel
theorem dX9_define_58 : decode cX9_define 58 = .ok (.ifCond .eq 36, 3) := by decide +kernel
theorem dX9_define_61 : decode cX9_define 61 = .ok (.aload_n 0, 1) := by decide +kernel
theorem dX9_define_62 : decode cX9_define 62 = .ok (.getfield 20, 3) := by decide +kernel
theorem dX9_define_65 : decode cX9_define 65 = .ok (.iload_n 1, 1) := by decide +kernel
theorem dX9_define_66 : decode cX9_define 66 = .ok (.baload, 1) := by decide +kernel
theorem dX9_define_67 : decode cX9_define 67 = .ok (.ifCond .ne 27, 3) := by decide +kernel
theorem dX9_define_70 : decode cX9_define 70 = .ok (.aload_n 0, 1) := by decide +kernel
theorem dX9_define_71 : decode cX9_define 71 = .ok (.getfield 23, 3) := by decide +kernel
theorem dX9_define_74 : decode cX9_define 74 = .ok (.iload_n 1, 1) := by decide +kernel
theorem dX9_define_75 : decode cX9_define 75 = .ok (.iaload, 1) := by decide +kernel
theorem dX9_define_76 : decode cX9_define 76 = .ok (.iload_n 2, 1) := by decide +kernel
theorem dX9_define_77 : decode cX9_define 77 = .ok (.if_icmp .ne 17, 3) := by decide +kernel
theorem dX9_define_80 : decode cX9_define 80 = .ok (.aload_n 0, 1) := by decide +kernel
theorem dX9_define_81 : decode cX9_define 81 = .ok (.getfield 26, 3) := by decide +kernel
theorem dX9_define_84 : decode cX9_define 84 = .ok (.iload_n 1, 1) := by decide +kernel
theorem dX9_define_85 : decode cX9_define 85 = .ok (.iaload, 1) := by decide +kernel
theorem dX9_define_86 : decode cX9_define 86 = .ok (.iload_n 3, 1) := by decide +kernel
theorem dX9_define_87 : decode cX9_define 87 = .ok (.if_icmp .ne 7, 3) := by decide +kernel
theorem dX9_define_90 : decode cX9_define 90 = .ok (.iconst 1, 1) := by decide +kernel
theorem dX9_define_91 : decode cX9_define 91 = .ok (.goto 4, 3) := by decide +kernel
theorem dX9_define_94 : decode cX9_define 94 = .ok (.iconst 0, 1) := by decide +kernel
theorem dX9_define_95 : decode cX9_define 95 = .ok (.istore 4, 2) := by decide +kernel
theorem dX9_define_97 : decode cX9_define 97 = .ok (.aload_n 0, 1) := by decide +kernel
theorem dX9_define_98 : decode cX9_define 98 = .ok (.getfield 20, 3) := by decide +kernel
theorem dX9_define_101 : decode cX9_define 101 = .ok (.iload_n 1, 1) := by decide +kernel
theorem dX9_define_102 : decode cX9_define 102 = .ok (.iconst 1, 1) := by decide +kernel
theorem dX9_define_103 : decode cX9_define 103 = .ok (.bastore, 1) := by decide +kernel
theorem dX9_define_104 : decode cX9_define 104 = .ok (.iload 4, 2) := by decide +kernel
theorem dX9_define_106 : decode cX9_define 106 = .ok (.ireturn, 1) := by decide +kernel
theorem dX9_define_107 : decode cX9_define 107 = .ok (.aload_n 0, 1) := by decide +kernel
theorem dX9_define_108 : decode cX9_define 108 = .ok (.getfield 16, 3) := by decide +kernel
theorem dX9_define_111 : decode cX9_define 111 = .ok (.iload_n 1, 1) := by decide +kernel
theorem dX9_define_112 : decode cX9_define 112 = .ok (.baload, 1) := by decide +kernel
theorem dX9_define_113 : decode cX9_define 113 = .ok (.ifCond .eq 5, 3) := by decide +kernel
theorem dX9_define_116 : decode cX9_define 116 = .ok (.iconst 0, 1) := by decide +kernel
theorem dX9_define_117 : decode cX9_define 117 = .ok (.ireturn, 1) := by decide +kernel
theorem dX9_define_118 : decode cX9_define 118 = .ok (.aload_n 0, 1) := by decide +kernel
theorem dX9_define_119 : decode cX9_define 119 = .ok (.getfield 16, 3) := by decide +kernel
theorem dX9_define_122 : decode cX9_define 122 = .ok (.iload_n 1, 1) := by decide +kernel
theorem dX9_define_123 : decode cX9_define 123 = .ok (.iconst 1, 1) := by decide +kernel
theorem dX9_define_124 : decode cX9_define 124 = .ok (.bastore, 1) := by decide +kernel
theorem dX9_define_125 : decode cX9_define 125 = .ok (.aload_n 0, 1) := by decide +kernel
theorem dX9_define_126 : decode cX9_define 126 = .ok (.getfield 23, 3) := by decide +kernel
theorem dX9_define_129 : decode cX9_define 129 = .ok (.iload_n 1, 1) := by decide +kernel
theorem dX9_define_130 : decode cX9_define 130 = .ok (.iload_n 2, 1) := by decide +kernel
theorem dX9_define_131 : decode cX9_define 131 = .ok (.iastore, 1) := by decide +kernel
theorem dX9_define_132 : decode cX9_define 132 = .ok (.aload_n 0, 1) := by decide +kernel
theorem dX9_define_133 : decode cX9_define 133 = .ok (.getfield 26, 3) := by decide +kernel
theorem dX9_define_136 : decode cX9_define 136 = .ok (.iload_n 1, 1) := by decide +kernel
theorem dX9_define_137 : decode cX9_define 137 = .ok (.iload_n 3, 1) := by decide +kernel
theorem dX9_define_138 : decode cX9_define 138 = .ok (.iastore, 1) := by decide +kernel
theorem dX9_define_139 : decode cX9_define 139 = .ok (.iconst 1, 1) := by decide +kernel
theorem dX9_define_140 : decode cX9_define 140 = .ok (.ireturn, 1) := by decide +kernel
set_option maxRecDepth 20000 in
theorem ggX9_start_X9_numberAt : GoodIn wsX9_start wsX9_numberAt := goodIn_r _ [13, 5, 14, 15, 16, 17, 18, 19, 20, 21, 22, 23, 24, 25, 26, 27, 28, 29, 30, 31, 32, 33, 34, 35, 36, 37, 38, 39, 40, 41, 42, 43] (by decide +kernel) (by decide +kernel)
set_option maxRecDepth 20000 in
theorem gX9_start_X9_numberAt : GoodIn wsX9_start (wsV RX9 66 RX9 yX9_numberAt wsX9_numberAt) := goodIn_app (goodIn_of _ (by decide +kernel)) ggX9_start_X9_numberAt
theorem dX9_start_0 : decode cX9_start 0 = .ok (.aload_n 0, 1) := by decide +kernel
theorem dX9_start_1 : decode cX9_start 1 = .ok (.aload_n 0, 1) := by decide +kernel
theorem dX9_start_2 : decode cX9_start 2 = .ok (.aload_n 0, 1) := by decide +kernel
theorem dX9_start_3 : decode cX9_start 3 = .ok (.getfield 105, 3) := by decide +kernel
theorem dX9_start_6 : decode cX9_start 6 = .ok (.iconst 2, 1) := by decide +kernel
theorem dX9_start_7 : decode cX9_start 7 = .ok (.iadd, 1) := by decide +kernel
theorem dX9_start_8 : decode cX9_start 8 = .ok (.iconst 2, 1) := by decide +kernel
theorem dX9_start_9 : decode cX9_start 9 = .ok (.invokevirtual 66, 3) := by decide +kernel
theorem dX9_start_12 : decode cX9_start 12 = .ok (.putfield 131, 3) := by decide +kernel
theorem dX9_start_15 : decode cX9_start 15 = .ok (.aload_n 0, 1) := by decide +kernel
theorem dX9_start_16 : decode cX9_start 16 = .ok (.aload_n 0, 1) := by decide +kernel
theorem dX9_start_17 : decode cX9_start 17 = .ok (.aload_n 0, 1) := by decide +kernel
theorem dX9_start_18 : decode cX9_start 18 = .ok (.getfield 105, 3) := by decide +kernel
theorem dX9_start_21 : decode cX9_start 21 = .ok (.iconst 4, 1) := by decide +kernel
theorem dX9_start_22 : decode cX9_start 22 = .ok (.iadd, 1) := by decide +kernel
theorem dX9_start_23 : decode cX9_start 23 = .ok (.iconst 2, 1) := by decide +kernel
theorem dX9_start_24 : decode cX9_start 24 = .ok (.invokevirtual 66, 3) := by decide +kernel
theorem dX9_start_27 : decode cX9_start 27 = .ok (.putfield 134, 3) := by decide +kernel
theorem dX9_start_30 : decode cX9_start 30 = .ok (.aload_n 0, 1) := by decide +kernel
theorem dX9_start_31 : decode cX9_start 31 = .ok (.aload_n 0, 1) := by decide +kernel
theorem dX9_start_32 : decode cX9_start 32 = .ok (.aload_n 0, 1) := by decide +kernel
theorem dX9_start_33 : decode cX9_start 33 = .ok (.getfield 105, 3) := by decide +kernel
theorem dX9_start_36 : decode cX9_start 36 = .ok (.bipush 6, 2) := by decide +kernel
theorem dX9_start_38 : decode cX9_start 38 = .ok (.iadd, 1) := by decide +kernel
theorem dX9_start_39 : decode cX9_start 39 = .ok (.iconst 2, 1) := by decide +kernel
theorem dX9_start_40 : decode cX9_start 40 = .ok (.invokevirtual 66, 3) := by decide +kernel
theorem dX9_start_43 : decode cX9_start 43 = .ok (.putfield 137, 3) := by decide +kernel
theorem dX9_start_46 : decode cX9_start 46 = .ok (.aload_n 0, 1) := by decide +kernel
theorem dX9_start_47 : decode cX9_start 47 = .ok (.getfield 7, 3) := by decide +kernel
theorem dX9_start_50 : decode cX9_start 50 = .ok (.aload_n 0, 1) := by decide +kernel
theorem dX9_start_51 : decode cX9_start 51 = .ok (.getfield 105, 3) := by decide +kernel
theorem dX9_start_54 : decode cX9_start 54 = .ok (.iconst 1, 1) := by decide +kernel
theorem dX9_start_55 : decode cX9_start 55 = .ok (.iadd, 1) := by decide +kernel
theorem dX9_start_56 : decode cX9_start 56 = .ok (.iaload, 1) := by decide +kernel
theorem dX9_start_57 : decode cX9_start 57 = .ok (.iconst 2, 1) := by decide +kernel
theorem dX9_start_58 : decode cX9_start 58 = .ok (.if_icmp .ne 24, 3) := by decide +kernel
theorem dX9_start_61 : decode cX9_start 61 = .ok (.aload_n 0, 1) := by decide +kernel
theorem dX9_start_62 : decode cX9_start 62 = .ok (.getfield 131, 3) := by decide +kernel
theorem dX9_start_65 : decode cX9_start 65 = .ok (.ifCond .eq 17, 3) := by decide +kernel
theorem dX9_start_68 : decode cX9_start 68 = .ok (.aload_n 0, 1) := by decide +kernel
theorem dX9_start_69 : decode cX9_start 69 = .ok (.getfield 134, 3) := by decide +kernel
theorem dX9_start_72 : decode cX9_start 72 = .ok (.ifCond .eq 10, 3) := by decide +kernel
theorem dX9_start_75 : decode cX9_start 75 = .ok (.aload_n 0, 1) := by decide +kernel
theorem dX9_start_76 : decode cX9_start 76 = .ok (.getfield 137, 3) := by decide +kernel
theorem dX9_start_79 : decode cX9_start 79 = .ok (.ifCond .ne 5, 3) := by decide +kernel
theorem dX9_start_82 : decode cX9_start 82 = .ok (.iconst 0, 1) := by decide +kernel
theorem dX9_start_83 : decode cX9_start 83 = .ok (.ireturn, 1) := by decide +kernel
theorem dX9_start_84 : decode cX9_start 84 = .ok (.aload_n 0, 1) := by decide +kernel
theorem dX9_start_85 : decode cX9_start 85 = .ok (.aload_n 0, 1) := by decide +kernel
theorem dX9_start_86 : decode cX9_start 86 = .ok (.getfield 131, 3) := by decide +kernel
theorem dX9_start_89 : decode cX9_start 89 = .ok (.i2d, 1) := by decide +kernel
theorem dX9_start_90 : decode cX9_start 90 = .ok (.aload_n 0, 1) := by decide +kernel
theorem dX9_start_91 : decode cX9_start 91 = .ok (.getfield 134, 3) := by decide +kernel
theorem dX9_start_94 : decode cX9_start 94 = .ok (.i2d, 1) := by decide +kernel
theorem dX9_start_95 : decode cX9_start 95 = .ok (.ddiv, 1) := by decide +kernel
theorem dX9_start_96 : decode cX9_start 96 = .ok (.aload_n 0, 1) := by decide +kernel
theorem dX9_start_97 : decode cX9_start 97 = .ok (.getfield 137, 3) := by decide +kernel
theorem dX9_start_100 : decode cX9_start 100 = .ok (.i2d, 1) := by decide +kernel
theorem dX9_start_101 : decode cX9_start 101 = .ok (.ldc2_w 140, 3) := by decide +kernel
theorem dX9_start_104 : decode cX9_start 104 = .ok (.ddiv, 1) := by decide +kernel
theorem dX9_start_105 : decode cX9_start 105 = .ok (.dmul, 1) := by decide +kernel
theorem dX9_start_106 : decode cX9_start 106 = .ok (.putfield 73, 3) := by decide +kernel
theorem dX9_start_109 : decode cX9_start 109 = .ok (.aload_n 0, 1) := by decide +kernel
theorem dX9_start_110 : decode cX9_start 110 = .ok (.iconst 1, 1) := by decide +kernel
theorem dX9_start_111 : decode cX9_start 111 = .ok (.putfield 128, 3) := by decide +kernel
theorem dX9_start_114 : decode cX9_start 114 = .ok (.iconst 1, 1) := by decide +kernel
theorem dX9_start_115 : decode cX9_start 115 = .ok (.ireturn, 1) := by decide +kernel
set_option maxRecDepth 20000 in
theorem ggX9_beginPage_X9_numberAt : GoodIn wsX9_beginPage wsX9_numberAt := goodIn_r _ [17, 18, 23, 24, 25, 26, 27, 28, 29, 30, 31, 32, 33, 34, 35, 36, 37, 38, 39, 40, 41, 42, 43, 44, 45, 46, 47, 48, 49, 50, 51, 52] (by decide +kernel) (by decide +kernel)
set_option maxRecDepth 20000 in
theorem gX9_beginPage_X9_numberAt : GoodIn wsX9_beginPage (wsV RX9 66 RX9 yX9_numberAt wsX9_numberAt) := goodIn_app (goodIn_of _ (by decide +kernel)) ggX9_beginPage_X9_numberAt
set_option maxRecDepth 20000 in
theorem ggX9_beginPage_X9_signedAt : GoodIn wsX9_beginPage wsX9_signedAt := goodIn_r _ [22, 13, 14, 15, 16, 17, 18, 23, 24, 25, 26, 27, 28, 29, 30, 31, 32, 33, 34, 35, 36, 37, 38, 39, 40, 41, 42, 43, 44, 45, 46, 47, 48, 49, 50, 51, 52] (by decide +kernel) (by decide +kernel)
set_option maxRecDepth 20000 in
theorem gX9_beginPage_X9_signedAt : GoodIn wsX9_beginPage (wsV RX9 108 RX9 yX9_signedAt wsX9_signedAt) := goodIn_app (goodIn_of _ (by decide +kernel)) ggX9_beginPage_X9_signedAt
theorem dX9_beginPage_0 : decode cX9_beginPage 0 = .ok (.aload_n 0, 1) := by decide +kernel
theorem dX9_beginPage_1 : decode cX9_beginPage 1 = .ok (.getfield 95, 3) := by decide +kernel
theorem dX9_beginPage_4 : decode cX9_beginPage 4 = .ok (.bipush 12, 2) := by decide +kernel
theorem dX9_beginPage_6 : decode cX9_beginPage 6 = .ok (.if_icmp .eq 21, 3) := by decide +kernel
theorem dX9_beginPage_9 : decode cX9_beginPage 9 = .ok (.aload_n 0, 1) := by decide +kernel
theorem dX9_beginPage_10 : decode cX9_beginPage 10 = .ok (.aload_n 0, 1) := by decide +kernel
theorem dX9_beginPage_11 : decode cX9_beginPage 11 = .ok (.getfield 105, 3) := by decide +kernel
theorem dX9_beginPage_14 : decode cX9_beginPage 14 = .ok (.iconst 3, 1) := by decide +kernel
theorem dX9_beginPage_15 : decode cX9_beginPage 15 = .ok (.iadd, 1) := by decide +kernel
theorem dX9_beginPage_16 : decode cX9_beginPage 16 = .ok (.iconst 2, 1) := by decide +kernel
theorem dX9_beginPage_17 : decode cX9_beginPage 17 = .ok (.invokevirtual 66, 3) := by decide +kernel
theorem dX9_beginPage_20 : decode cX9_beginPage 20 = .ok (.aload_n 0, 1) := by decide +kernel
theorem dX9_beginPage_21 : decode cX9_beginPage 21 = .ok (.getfield 142, 3) := by decide +kernel
theorem dX9_beginPage_24 : decode cX9_beginPage 24 = .ok (.if_icmp .eq 5, 3) := by decide +kernel
theorem dX9_beginPage_27 : decode cX9_beginPage 27 = .ok (.iconst 0, 1) := by decide +kernel
theorem dX9_beginPage_28 : decode cX9_beginPage 28 = .ok (.ireturn, 1) := by decide +kernel
theorem dX9_beginPage_29 : decode cX9_beginPage 29 = .ok (.aload_n 0, 1) := by decide +kernel
theorem dX9_beginPage_30 : decode cX9_beginPage 30 = .ok (.getfield 33, 3) := by decide +kernel
theorem dX9_beginPage_33 : decode cX9_beginPage 33 = .ok (.aload_n 0, 1) := by decide +kernel
theorem dX9_beginPage_34 : decode cX9_beginPage 34 = .ok (.getfield 95, 3) := by decide +kernel
theorem dX9_beginPage_37 : decode cX9_beginPage 37 = .ok (.aload_n 0, 1) := by decide +kernel
theorem dX9_beginPage_38 : decode cX9_beginPage 38 = .ok (.aload_n 0, 1) := by decide +kernel
theorem dX9_beginPage_39 : decode cX9_beginPage 39 = .ok (.getfield 105, 3) := by decide +kernel
theorem dX9_beginPage_42 : decode cX9_beginPage 42 = .ok (.iconst 1, 1) := by decide +kernel
theorem dX9_beginPage_43 : decode cX9_beginPage 43 = .ok (.iadd, 1) := by decide +kernel
theorem dX9_beginPage_44 : decode cX9_beginPage 44 = .ok (.iconst 2, 1) := by decide +kernel
theorem dX9_beginPage_45 : decode cX9_beginPage 45 = .ok (.invokevirtual 108, 3) := by decide +kernel
theorem dX9_beginPage_48 : decode cX9_beginPage 48 = .ok (.iastore, 1) := by decide +kernel
theorem dX9_beginPage_49 : decode cX9_beginPage 49 = .ok (.aload_n 0, 1) := by decide +kernel
theorem dX9_beginPage_50 : decode cX9_beginPage 50 = .ok (.getfield 36, 3) := by decide +kernel
theorem dX9_beginPage_53 : decode cX9_beginPage 53 = .ok (.aload_n 0, 1) := by decide +kernel
theorem dX9_beginPage_54 : decode cX9_beginPage 54 = .ok (.getfield 95, 3) := by decide +kernel
theorem dX9_beginPage_57 : decode cX9_beginPage 57 = .ok (.iconst 0, 1) := by decide +kernel
theorem dX9_beginPage_58 : decode cX9_beginPage 58 = .ok (.iastore, 1) := by decide +kernel
theorem dX9_beginPage_59 : decode cX9_beginPage 59 = .ok (.aload_n 0, 1) := by decide +kernel
theorem dX9_beginPage_60 : decode cX9_beginPage 60 = .ok (.getfield 39, 3) := by decide +kernel
theorem dX9_beginPage_63 : decode cX9_beginPage 63 = .ok (.aload_n 0, 1) := by decide +kernel
theorem dX9_beginPage_64 : decode cX9_beginPage 64 = .ok (.getfield 95, 3) := by decide +kernel
theorem dX9_beginPage_67 : decode cX9_beginPage 67 = .ok (.aload_n 0, 1) := by decide +kernel
theorem dX9_beginPage_68 : decode cX9_beginPage 68 = .ok (.getfield 89, 3) := by decide +kernel
theorem dX9_beginPage_71 : decode cX9_beginPage 71 = .ok (.iastore, 1) := by decide +kernel
theorem dX9_beginPage_72 : decode cX9_beginPage 72 = .ok (.aload_n 0, 1) := by decide +kernel
theorem dX9_beginPage_73 : decode cX9_beginPage 73 = .ok (.getfield 42, 3) := by decide +kernel
theorem dX9_beginPage_76 : decode cX9_beginPage 76 = .ok (.aload_n 0, 1) := by decide +kernel
theorem dX9_beginPage_77 : decode cX9_beginPage 77 = .ok (.getfield 95, 3) := by decide +kernel
theorem dX9_beginPage_80 : decode cX9_beginPage 80 = .ok (.aload_n 0, 1) := by decide +kernel
theorem dX9_beginPage_81 : decode cX9_beginPage 81 = .ok (.getfield 105, 3) := by decide +kernel
theorem dX9_beginPage_84 : decode cX9_beginPage 84 = .ok (.iastore, 1) := by decide +kernel
theorem dX9_beginPage_85 : decode cX9_beginPage 85 = .ok (.aload_n 0, 1) := by decide +kernel
theorem dX9_beginPage_86 : decode cX9_beginPage 86 = .ok (.dup, 1) := by decide +kernel
theorem dX9_beginPage_87 : decode cX9_beginPage 87 = .ok (.getfield 95, 3) := by decide +kernel
theorem dX9_beginPage_90 : decode cX9_beginPage 90 = .ok (.iconst 1, 1) := by decide +kernel
theorem dX9_beginPage_91 : decode cX9_beginPage 91 = .ok (.iadd, 1) := by decide +kernel
theorem dX9_beginPage_92 : decode cX9_beginPage 92 = .ok (.putfield 95, 3) := by decide +kernel
theorem dX9_beginPage_95 : decode cX9_beginPage 95 = .ok (.aload_n 0, 1) := by decide +kernel
theorem dX9_beginPage_96 : decode cX9_beginPage 96 = .ok (.aload_n 0, 1) := by decide +kernel
theorem dX9_beginPage_97 : decode cX9_beginPage 97 = .ok (.getfield 105, 3) := by decide +kernel
theorem dX9_beginPage_100 : decode cX9_beginPage 100 = .ok (.putfield 142, 3) := by decide +kernel
theorem dX9_beginPage_103 : decode cX9_beginPage 103 = .ok (.aload_n 0, 1) := by decide +kernel
theorem dX9_beginPage_104 : decode cX9_beginPage 104 = .ok (.iconst 2, 1) := by decide +kernel
theorem dX9_beginPage_105 : decode cX9_beginPage 105 = .ok (.putfield 128, 3) := by decide +kernel
theorem dX9_beginPage_108 : decode cX9_beginPage 108 = .ok (.aload_n 0, 1) := by decide +kernel
theorem dX9_beginPage_109 : decode cX9_beginPage 109 = .ok (.iconst (-1), 1) := by decide +kernel
theorem dX9_beginPage_110 : decode cX9_beginPage 110 = .ok (.putfield 82, 3) := by decide +kernel
theorem dX9_beginPage_113 : decode cX9_beginPage 113 = .ok (.aload_n 0, 1) := by decide +kernel
theorem dX9_beginPage_114 : decode cX9_beginPage 114 = .ok (.iconst 0, 1) := by decide +kernel
theorem dX9_beginPage_115 : decode cX9_beginPage 115 = .ok (.putfield 111, 3) := by decide +kernel
theorem dX9_beginPage_118 : decode cX9_beginPage 118 = .ok (.iconst 0, 1) := by decide +kernel
theorem dX9_beginPage_119 : decode cX9_beginPage 119 = .ok (.istore_n 1, 1) := by decide +kernel
theorem dX9_beginPage_120 : decode cX9_beginPage 120 = .ok (.iload_n 1, 1) := by decide +kernel
theorem dX9_beginPage_121 : decode cX9_beginPage 121 = .ok (.bipush 8, 2) := by decide +kernel
theorem dX9_beginPage_123 : decode cX9_beginPage 123 = .ok (.if_icmp .ge 16, 3) := by decide +kernel
theorem dX9_beginPage_126 : decode cX9_beginPage 126 = .ok (.aload_n 0, 1) := by decide +kernel
theorem dX9_beginPage_127 : decode cX9_beginPage 127 = .ok (.getfield 48, 3) := by decide +kernel
theorem dX9_beginPage_130 : decode cX9_beginPage 130 = .ok (.iload_n 1, 1) := by decide +kernel
theorem dX9_beginPage_131 : decode cX9_beginPage 131 = .ok (.iconst 0, 1) := by decide +kernel
theorem dX9_beginPage_132 : decode cX9_beginPage 132 = .ok (.iastore, 1) := by decide +kernel
theorem dX9_beginPage_133 : decode cX9_beginPage 133 = .ok (.iinc 1 1, 3) := by decide +kernel
theorem dX9_beginPage_136 : decode cX9_beginPage 136 = .ok (.goto (-16), 3) := by decide +kernel
theorem dX9_beginPage_139 : decode cX9_beginPage 139 = .ok (.iconst 1, 1) := by decide +kernel
theorem dX9_beginPage_140 : decode cX9_beginPage 140 = .ok (.ireturn, 1) := by decide +kernel
set_option maxRecDepth 20000 in
theorem ggX9_last_X9_numberAt : GoodIn wsX9_last wsX9_numberAt := goodIn_r _ [15, 8, 16, 17, 18, 19, 20, 21, 22, 23, 24, 25, 26, 27, 28, 29, 30, 31, 32, 33, 34, 35, 36, 37, 38, 39, 40, 41, 42, 43, 44, 45] (by decide +kernel) (by decide +kernel)
set_option maxRecDepth 20000 in
theorem gX9_last_X9_numberAt : GoodIn wsX9_last (wsV RX9 66 RX9 yX9_numberAt wsX9_numberAt) := goodIn_app (goodIn_of _ (by decide +kernel)) ggX9_last_X9_numberAt
theorem dX9_last_0 : decode cX9_last 0 = .ok (.aload_n 0, 1) := by decide +kernel
theorem dX9_last_1 : decode cX9_last 1 = .ok (.aload_n 0, 1) := by decide +kernel
theorem dX9_last_2 : decode cX9_last 2 = .ok (.getfield 105, 3) := by decide +kernel
theorem dX9_last_5 : decode cX9_last 5 = .ok (.iconst 1, 1) := by decide +kernel
theorem dX9_last_6 : decode cX9_last 6 = .ok (.iadd, 1) := by decide +kernel
theorem dX9_last_7 : decode cX9_last 7 = .ok (.iconst 2, 1) := by decide +kernel
theorem dX9_last_8 : decode cX9_last 8 = .ok (.invokevirtual 66, 3) := by decide +kernel
theorem dX9_last_11 : decode cX9_last 11 = .ok (.aload_n 0, 1) := by decide +kernel
theorem dX9_last_12 : decode cX9_last 12 = .ok (.getfield 142, 3) := by decide +kernel
theorem dX9_last_15 : decode cX9_last 15 = .ok (.if_icmp .ne 62, 3) := by decide +kernel
theorem dX9_last_18 : decode cX9_last 18 = .ok (.aload_n 0, 1) := by decide +kernel
theorem dX9_last_19 : decode cX9_last 19 = .ok (.aload_n 0, 1) := by decide +kernel
theorem dX9_last_20 : decode cX9_last 20 = .ok (.getfield 105, 3) := by decide +kernel
theorem dX9_last_23 : decode cX9_last 23 = .ok (.iconst 3, 1) := by decide +kernel
theorem dX9_last_24 : decode cX9_last 24 = .ok (.iadd, 1) := by decide +kernel
theorem dX9_last_25 : decode cX9_last 25 = .ok (.iconst 2, 1) := by decide +kernel
theorem dX9_last_26 : decode cX9_last 26 = .ok (.invokevirtual 66, 3) := by decide +kernel
theorem dX9_last_29 : decode cX9_last 29 = .ok (.aload_n 0, 1) := by decide +kernel
theorem dX9_last_30 : decode cX9_last 30 = .ok (.getfield 131, 3) := by decide +kernel
theorem dX9_last_33 : decode cX9_last 33 = .ok (.if_icmp .ne 44, 3) := by decide +kernel
theorem dX9_last_36 : decode cX9_last 36 = .ok (.aload_n 0, 1) := by decide +kernel
theorem dX9_last_37 : decode cX9_last 37 = .ok (.aload_n 0, 1) := by decide +kernel
theorem dX9_last_38 : decode cX9_last 38 = .ok (.getfield 105, 3) := by decide +kernel
theorem dX9_last_41 : decode cX9_last 41 = .ok (.iconst 5, 1) := by decide +kernel
theorem dX9_last_42 : decode cX9_last 42 = .ok (.iadd, 1) := by decide +kernel
theorem dX9_last_43 : decode cX9_last 43 = .ok (.iconst 2, 1) := by decide +kernel
theorem dX9_last_44 : decode cX9_last 44 = .ok (.invokevirtual 66, 3) := by decide +kernel
theorem dX9_last_47 : decode cX9_last 47 = .ok (.aload_n 0, 1) := by decide +kernel
theorem dX9_last_48 : decode cX9_last 48 = .ok (.getfield 134, 3) := by decide +kernel
theorem dX9_last_51 : decode cX9_last 51 = .ok (.if_icmp .ne 26, 3) := by decide +kernel
theorem dX9_last_54 : decode cX9_last 54 = .ok (.aload_n 0, 1) := by decide +kernel
theorem dX9_last_55 : decode cX9_last 55 = .ok (.aload_n 0, 1) := by decide +kernel
theorem dX9_last_56 : decode cX9_last 56 = .ok (.getfield 105, 3) := by decide +kernel
theorem dX9_last_59 : decode cX9_last 59 = .ok (.bipush 7, 2) := by decide +kernel
theorem dX9_last_61 : decode cX9_last 61 = .ok (.iadd, 1) := by decide +kernel
theorem dX9_last_62 : decode cX9_last 62 = .ok (.iconst 2, 1) := by decide +kernel
theorem dX9_last_63 : decode cX9_last 63 = .ok (.invokevirtual 66, 3) := by decide +kernel
theorem dX9_last_66 : decode cX9_last 66 = .ok (.aload_n 0, 1) := by decide +kernel
theorem dX9_last_67 : decode cX9_last 67 = .ok (.getfield 137, 3) := by decide +kernel
theorem dX9_last_70 : decode cX9_last 70 = .ok (.if_icmp .ne 7, 3) := by decide +kernel
theorem dX9_last_73 : decode cX9_last 73 = .ok (.iconst 1, 1) := by decide +kernel
theorem dX9_last_74 : decode cX9_last 74 = .ok (.goto 4, 3) := by decide +kernel
theorem dX9_last_77 : decode cX9_last 77 = .ok (.iconst 0, 1) := by decide +kernel
theorem dX9_last_78 : decode cX9_last 78 = .ok (.istore_n 1, 1) := by decide +kernel
theorem dX9_last_79 : decode cX9_last 79 = .ok (.aload_n 0, 1) := by decide +kernel
theorem dX9_last_80 : decode cX9_last 80 = .ok (.aload_n 0, 1) := by decide +kernel
theorem dX9_last_81 : decode cX9_last 81 = .ok (.getfield 105, 3) := by decide +kernel
theorem dX9_last_84 : decode cX9_last 84 = .ok (.putfield 145, 3) := by decide +kernel
theorem dX9_last_87 : decode cX9_last 87 = .ok (.aload_n 0, 1) := by decide +kernel
theorem dX9_last_88 : decode cX9_last 88 = .ok (.iconst 3, 1) := by decide +kernel
theorem dX9_last_89 : decode cX9_last 89 = .ok (.putfield 128, 3) := by decide +kernel
theorem dX9_last_92 : decode cX9_last 92 = .ok (.iload_n 1, 1) := by decide +kernel
theorem dX9_last_93 : decode cX9_last 93 = .ok (.ifCond .eq 45, 3) := by decide +kernel
theorem dX9_last_96 : decode cX9_last 96 = .ok (.aload_n 0, 1) := by decide +kernel
theorem dX9_last_97 : decode cX9_last 97 = .ok (.getfield 7, 3) := by decide +kernel
theorem dX9_last_100 : decode cX9_last 100 = .ok (.aload_n 0, 1) := by decide +kernel
theorem dX9_last_101 : decode cX9_last 101 = .ok (.getfield 105, 3) := by decide +kernel
theorem dX9_last_104 : decode cX9_last 104 = .ok (.bipush 9, 2) := by decide +kernel
theorem dX9_last_106 : decode cX9_last 106 = .ok (.iadd, 1) := by decide +kernel
theorem dX9_last_107 : decode cX9_last 107 = .ok (.iaload, 1) := by decide +kernel
theorem dX9_last_108 : decode cX9_last 108 = .ok (.aload_n 0, 1) := by decide +kernel
theorem dX9_last_109 : decode cX9_last 109 = .ok (.getfield 114, 3) := by decide +kernel
theorem dX9_last_112 : decode cX9_last 112 = .ok (.if_icmp .ne 26, 3) := by decide +kernel
theorem dX9_last_115 : decode cX9_last 115 = .ok (.aload_n 0, 1) := by decide +kernel
theorem dX9_last_116 : decode cX9_last 116 = .ok (.aload_n 0, 1) := by decide +kernel
theorem dX9_last_117 : decode cX9_last 117 = .ok (.getfield 105, 3) := by decide +kernel
theorem dX9_last_120 : decode cX9_last 120 = .ok (.bipush 10, 2) := by decide +kernel
theorem dX9_last_122 : decode cX9_last 122 = .ok (.iadd, 1) := by decide +kernel
theorem dX9_last_123 : decode cX9_last 123 = .ok (.iconst 2, 1) := by decide +kernel
theorem dX9_last_124 : decode cX9_last 124 = .ok (.invokevirtual 66, 3) := by decide +kernel
theorem dX9_last_127 : decode cX9_last 127 = .ok (.aload_n 0, 1) := by decide +kernel
theorem dX9_last_128 : decode cX9_last 128 = .ok (.getfield 95, 3) := by decide +kernel
theorem dX9_last_131 : decode cX9_last 131 = .ok (.if_icmp .ne 7, 3) := by decide +kernel
theorem dX9_last_134 : decode cX9_last 134 = .ok (.iconst 1, 1) := by decide +kernel
theorem dX9_last_135 : decode cX9_last 135 = .ok (.goto 4, 3) := by decide +kernel
theorem dX9_last_138 : decode cX9_last 138 = .ok (.iconst 0, 1) := by decide +kernel
theorem dX9_last_139 : decode cX9_last 139 = .ok (.ireturn, 1) := by decide +kernel
set_option maxRecDepth 20000 in
theorem ggX9_close_X9_numberAt : GoodIn wsX9_close wsX9_numberAt := goodIn_r _ [12, 3, 13, 14, 15, 16, 17, 18, 19, 20, 21, 22, 23, 24, 25, 26, 27, 28, 29, 30, 31, 32, 33, 34, 35, 36, 37, 38, 39, 40, 41, 42] (by decide +kernel) (by decide +kernel)
set_option maxRecDepth 20000 in
theorem gX9_close_X9_numberAt : GoodIn wsX9_close (wsV RX9 66 RX9 yX9_numberAt wsX9_numberAt) := goodIn_app (goodIn_of _ (by decide +kernel)) ggX9_close_X9_numberAt
theorem dX9_close_0 : decode cX9_close 0 = .ok (.aload_n 0, 1) := by decide +kernel
theorem dX9_close_1 : decode cX9_close 1 = .ok (.aload_n 0, 1) := by decide +kernel
theorem dX9_close_2 : decode cX9_close 2 = .ok (.getfield 105, 3) := by decide +kernel
theorem dX9_close_5 : decode cX9_close 5 = .ok (.iconst 1, 1) := by decide +kernel
theorem dX9_close_6 : decode cX9_close 6 = .ok (.iadd, 1) := by decide +kernel
theorem dX9_close_7 : decode cX9_close 7 = .ok (.iconst 2, 1) := by decide +kernel
theorem dX9_close_8 : decode cX9_close 8 = .ok (.invokevirtual 66, 3) := by decide +kernel
theorem dX9_close_11 : decode cX9_close 11 = .ok (.aload_n 0, 1) := by decide +kernel
theorem dX9_close_12 : decode cX9_close 12 = .ok (.getfield 145, 3) := by decide +kernel
theorem dX9_close_15 : decode cX9_close 15 = .ok (.if_icmp .ne 46, 3) := by decide +kernel
theorem dX9_close_18 : decode cX9_close 18 = .ok (.aload_n 0, 1) := by decide +kernel
theorem dX9_close_19 : decode cX9_close 19 = .ok (.getfield 7, 3) := by decide +kernel
theorem dX9_close_22 : decode cX9_close 22 = .ok (.aload_n 0, 1) := by decide +kernel
theorem dX9_close_23 : decode cX9_close 23 = .ok (.getfield 105, 3) := by decide +kernel
theorem dX9_close_26 : decode cX9_close 26 = .ok (.iconst 3, 1) := by decide +kernel
theorem dX9_close_27 : decode cX9_close 27 = .ok (.iadd, 1) := by decide +kernel
theorem dX9_close_28 : decode cX9_close 28 = .ok (.iaload, 1) := by decide +kernel
theorem dX9_close_29 : decode cX9_close 29 = .ok (.iconst 2, 1) := by decide +kernel
theorem dX9_close_30 : decode cX9_close 30 = .ok (.if_icmp .ne 31, 3) := by decide +kernel
theorem dX9_close_33 : decode cX9_close 33 = .ok (.aload_n 0, 1) := by decide +kernel
theorem dX9_close_34 : decode cX9_close 34 = .ok (.getfield 61, 3) := by decide +kernel
theorem dX9_close_37 : decode cX9_close 37 = .ok (.aload_n 0, 1) := by decide +kernel
theorem dX9_close_38 : decode cX9_close 38 = .ok (.getfield 105, 3) := by decide +kernel
theorem dX9_close_41 : decode cX9_close 41 = .ok (.isub, 1) := by decide +kernel
theorem dX9_close_42 : decode cX9_close 42 = .ok (.iconst 4, 1) := by decide +kernel
theorem dX9_close_43 : decode cX9_close 43 = .ok (.isub, 1) := by decide +kernel
theorem dX9_close_44 : decode cX9_close 44 = .ok (.iconst 4, 1) := by decide +kernel
theorem dX9_close_45 : decode cX9_close 45 = .ok (.if_icmp .lt 16, 3) := by decide +kernel
theorem dX9_close_48 : decode cX9_close 48 = .ok (.aload_n 0, 1) := by decide +kernel
theorem dX9_close_49 : decode cX9_close 49 = .ok (.getfield 61, 3) := by decide +kernel
theorem dX9_close_52 : decode cX9_close 52 = .ok (.iconst 4, 1) := by decide +kernel
theorem dX9_close_53 : decode cX9_close 53 = .ok (.irem, 1) := by decide +kernel
theorem dX9_close_54 : decode cX9_close 54 = .ok (.ifCond .ne 7, 3) := by decide +kernel
theorem dX9_close_57 : decode cX9_close 57 = .ok (.iconst 1, 1) := by decide +kernel
theorem dX9_close_58 : decode cX9_close 58 = .ok (.goto 4, 3) := by decide +kernel
theorem dX9_close_61 : decode cX9_close 61 = .ok (.iconst 0, 1) := by decide +kernel
theorem dX9_close_62 : decode cX9_close 62 = .ok (.istore_n 1, 1) := by decide +kernel
theorem dX9_close_63 : decode cX9_close 63 = .ok (.aload_n 0, 1) := by decide +kernel
theorem dX9_close_64 : decode cX9_close 64 = .ok (.getfield 105, 3) := by decide +kernel
theorem dX9_close_67 : decode cX9_close 67 = .ok (.iconst 4, 1) := by decide +kernel
theorem dX9_close_68 : decode cX9_close 68 = .ok (.iadd, 1) := by decide +kernel
theorem dX9_close_69 : decode cX9_close 69 = .ok (.istore_n 2, 1) := by decide +kernel
theorem dX9_close_70 : decode cX9_close 70 = .ok (.iload_n 2, 1) := by decide +kernel
theorem dX9_close_71 : decode cX9_close 71 = .ok (.aload_n 0, 1) := by decide +kernel
theorem dX9_close_72 : decode cX9_close 72 = .ok (.getfield 61, 3) := by decide +kernel
theorem dX9_close_75 : decode cX9_close 75 = .ok (.if_icmp .ge 31, 3) := by decide +kernel
theorem dX9_close_78 : decode cX9_close 78 = .ok (.iload_n 1, 1) := by decide +kernel
theorem dX9_close_79 : decode cX9_close 79 = .ok (.ifCond .eq 19, 3) := by decide +kernel
theorem dX9_close_82 : decode cX9_close 82 = .ok (.aload_n 0, 1) := by decide +kernel
theorem dX9_close_83 : decode cX9_close 83 = .ok (.getfield 7, 3) := by decide +kernel
theorem dX9_close_86 : decode cX9_close 86 = .ok (.iload_n 2, 1) := by decide +kernel
theorem dX9_close_87 : decode cX9_close 87 = .ok (.iaload, 1) := by decide +kernel
theorem dX9_close_88 : decode cX9_close 88 = .ok (.sipush 223, 3) := by decide +kernel
theorem dX9_close_91 : decode cX9_close 91 = .ok (.if_icmp .ne 7, 3) := by decide +kernel
theorem dX9_close_94 : decode cX9_close 94 = .ok (.iconst 1, 1) := by decide +kernel
theorem dX9_close_95 : decode cX9_close 95 = .ok (.goto 4, 3) := by decide +kernel
theorem dX9_close_98 : decode cX9_close 98 = .ok (.iconst 0, 1) := by decide +kernel
theorem dX9_close_99 : decode cX9_close 99 = .ok (.istore_n 1, 1) := by decide +kernel
theorem dX9_close_100 : decode cX9_close 100 = .ok (.iinc 2 1, 3) := by decide +kernel
theorem dX9_close_103 : decode cX9_close 103 = .ok (.goto (-33), 3) := by decide +kernel
theorem dX9_close_106 : decode cX9_close 106 = .ok (.iconst 0, 1) := by decide +kernel
theorem dX9_close_107 : decode cX9_close 107 = .ok (.istore_n 2, 1) := by decide +kernel
theorem dX9_close_108 : decode cX9_close 108 = .ok (.iload_n 2, 1) := by decide +kernel
theorem dX9_close_109 : decode cX9_close 109 = .ok (.bipush 8, 2) := by decide +kernel
theorem dX9_close_111 : decode cX9_close 111 = .ok (.if_icmp .ge 34, 3) := by decide +kernel
theorem dX9_close_114 : decode cX9_close 114 = .ok (.iload_n 1, 1) := by decide +kernel
theorem dX9_close_115 : decode cX9_close 115 = .ok (.ifCond .eq 22, 3) := by decide +kernel
theorem dX9_close_118 : decode cX9_close 118 = .ok (.aload_n 0, 1) := by decide +kernel
theorem dX9_close_119 : decode cX9_close 119 = .ok (.getfield 16, 3) := by decide +kernel
theorem dX9_close_122 : decode cX9_close 122 = .ok (.iload_n 2, 1) := by decide +kernel
theorem dX9_close_123 : decode cX9_close 123 = .ok (.baload, 1) := by decide +kernel
theorem dX9_close_124 : decode cX9_close 124 = .ok (.aload_n 0, 1) := by decide +kernel
theorem dX9_close_125 : decode cX9_close 125 = .ok (.getfield 20, 3) := by decide +kernel
theorem dX9_close_128 : decode cX9_close 128 = .ok (.iload_n 2, 1) := by decide +kernel
theorem dX9_close_129 : decode cX9_close 129 = .ok (.baload, 1) := by decide +kernel
theorem dX9_close_130 : decode cX9_close 130 = .ok (.if_icmp .ne 7, 3) := by decide +kernel
theorem dX9_close_133 : decode cX9_close 133 = .ok (.iconst 1, 1) := by decide +kernel
theorem dX9_close_134 : decode cX9_close 134 = .ok (.goto 4, 3) := by decide +kernel
theorem dX9_close_137 : decode cX9_close 137 = .ok (.iconst 0, 1) := by decide +kernel
theorem dX9_close_138 : decode cX9_close 138 = .ok (.istore_n 1, 1) := by decide +kernel
theorem dX9_close_139 : decode cX9_close 139 = .ok (.iinc 2 1, 3) := by decide +kernel
theorem dX9_close_142 : decode cX9_close 142 = .ok (.goto (-34), 3) := by decide +kernel
theorem dX9_close_145 : decode cX9_close 145 = .ok (.aload_n 0, 1) := by decide +kernel
theorem dX9_close_146 : decode cX9_close 146 = .ok (.iconst 4, 1) := by decide +kernel
theorem dX9_close_147 : decode cX9_close 147 = .ok (.putfield 128, 3) := by decide +kernel
theorem dX9_close_150 : decode cX9_close 150 = .ok (.iload_n 1, 1) := by decide +kernel
theorem dX9_close_151 : decode cX9_close 151 = .ok (.ireturn, 1) := by decide +kernel
set_option maxRecDepth 20000 in
theorem ggX9_inPage_X9_character : GoodIn wsX9_inPage wsX9_character := goodIn_r _ [9, 10, 11, 12, 13, 14, 8, 15, 16, 17, 18, 19, 20, 21, 22, 23, 24, 25, 26, 27, 28, 29, 30, 31, 32, 33, 34, 35, 36, 37, 38, 86, 87, 88, 89, 90, 91, 92, 93, 94, 95, 96, 97, 98, 99, 100, 101, 102, 103, 104, 105, 106, 107, 108, 109, 110, 111, 112, 113, 114, 115] (by decide +kernel) (by decide +kernel)
set_option maxRecDepth 20000 in
theorem gX9_inPage_X9_character : GoodIn wsX9_inPage (wsV RX9 148 RX9 yX9_character wsX9_character) := goodIn_app (goodIn_of _ (by decide +kernel)) ggX9_inPage_X9_character
set_option maxRecDepth 20000 in
theorem ggX9_inPage_X9_rule : GoodIn wsX9_inPage wsX9_rule := goodIn_r _ [42, 2, 43, 44, 45, 8, 46, 47, 48, 49, 50, 1, 12, 13, 14, 15, 16, 17, 18, 19, 20, 21, 22, 23, 24, 25, 26, 27, 28, 29, 30, 31, 32, 33, 34, 35, 36, 37, 38, 86, 87, 88, 89, 90, 91, 92, 93, 94, 95, 96, 97, 98, 99, 100, 101, 102, 103, 104, 105, 106, 107, 108, 109, 110, 111, 112, 113, 114, 115] (by decide +kernel) (by decide +kernel)
set_option maxRecDepth 20000 in
theorem gX9_inPage_X9_rule : GoodIn wsX9_inPage (wsV RX9 152 RX9 yX9_rule wsX9_rule) := goodIn_app (goodIn_of _ (by decide +kernel)) ggX9_inPage_X9_rule
set_option maxRecDepth 20000 in
theorem ggX9_inPage_X9_push : GoodIn wsX9_inPage wsX9_push := goodIn_r _ [54, 4, 55, 18, 56, 86, 87, 88, 89, 90, 91, 92, 93, 94, 95, 96, 97, 98, 99, 100, 101, 102, 103, 104, 105, 106, 107, 108, 109, 110, 111, 112, 113, 114, 115] (by decide +kernel) (by decide +kernel)
set_option maxRecDepth 20000 in
theorem gX9_inPage_X9_push : GoodIn wsX9_inPage (wsV RX9 156 RX9 yX9_push wsX9_push) := goodIn_app (goodIn_of _ (by decide +kernel)) ggX9_inPage_X9_push
set_option maxRecDepth 20000 in
theorem ggX9_inPage_X9_pop : GoodIn wsX9_inPage wsX9_pop := goodIn_r _ [60, 4, 18, 55, 86, 87, 88, 89, 90, 91, 92, 93, 94, 95, 96, 97, 98, 99, 100, 101, 102, 103, 104, 105, 106, 107, 108, 109, 110, 111, 112, 113, 114, 115] (by decide +kernel) (by decide +kernel)
set_option maxRecDepth 20000 in
theorem gX9_inPage_X9_pop : GoodIn wsX9_inPage (wsV RX9 160 RX9 yX9_pop wsX9_pop) := goodIn_app (goodIn_of _ (by decide +kernel)) ggX9_inPage_X9_pop
set_option maxRecDepth 20000 in
theorem ggX9_inPage_X9_moves : GoodIn wsX9_inPage wsX9_moves := goodIn_r _ [64, 2, 65, 66, 8, 67, 43, 44, 45, 46, 47, 48, 49, 50, 1, 68, 69, 70, 71, 10, 72, 18, 26, 27, 28, 29, 25, 30, 35, 36, 37, 38, 73, 74, 75, 76, 77, 78, 79, 80, 86, 87, 88, 89, 90, 91, 92, 93, 94, 95, 96, 97, 98, 99, 100, 101, 102, 103, 104, 105, 106, 107, 108, 109, 110, 111, 112, 113, 114, 115] (by decide +kernel) (by decide +kernel)
set_option maxRecDepth 20000 in
theorem gX9_inPage_X9_moves : GoodIn wsX9_inPage (wsV RX9 163 RX9 yX9_moves wsX9_moves) := goodIn_app (goodIn_of _ (by decide +kernel)) ggX9_inPage_X9_moves
set_option maxRecDepth 20000 in
theorem ggX9_inPage_X9_choose : GoodIn wsX9_inPage wsX9_choose := goodIn_r _ [84, 85, 10, 86, 87, 88, 89, 90, 91, 92, 93, 94, 95, 96, 97, 98, 99, 100, 101, 102, 103, 104, 105, 106, 107, 108, 109, 110, 111, 112, 113, 114, 115] (by decide +kernel) (by decide +kernel)
set_option maxRecDepth 20000 in
theorem gX9_inPage_X9_choose : GoodIn wsX9_inPage (wsV RX9 167 RX9 yX9_choose wsX9_choose) := goodIn_app (goodIn_of _ (by decide +kernel)) ggX9_inPage_X9_choose
theorem dX9_inPage_0 : decode cX9_inPage 0 = .ok (.iload_n 1, 1) := by decide +kernel
theorem dX9_inPage_1 : decode cX9_inPage 1 = .ok (.sipush 128, 3) := by decide +kernel
theorem dX9_inPage_4 : decode cX9_inPage 4 = .ok (.if_icmp .ge 10, 3) := by decide +kernel
theorem dX9_inPage_7 : decode cX9_inPage 7 = .ok (.aload_n 0, 1) := by decide +kernel
theorem dX9_inPage_8 : decode cX9_inPage 8 = .ok (.iload_n 1, 1) := by decide +kernel
theorem dX9_inPage_9 : decode cX9_inPage 9 = .ok (.iconst 1, 1) := by decide +kernel
theorem dX9_inPage_10 : decode cX9_inPage 10 = .ok (.invokevirtual 148, 3) := by decide +kernel
theorem dX9_inPage_13 : decode cX9_inPage 13 = .ok (.ireturn, 1) := by decide +kernel
theorem dX9_inPage_14 : decode cX9_inPage 14 = .ok (.iload_n 1, 1) := by decide +kernel
theorem dX9_inPage_15 : decode cX9_inPage 15 = .ok (.sipush 128, 3) := by decide +kernel
theorem dX9_inPage_18 : decode cX9_inPage 18 = .ok (.if_icmp .ne 20, 3) := by decide +kernel
theorem dX9_inPage_21 : decode cX9_inPage 21 = .ok (.aload_n 0, 1) := by decide +kernel
theorem dX9_inPage_22 : decode cX9_inPage 22 = .ok (.aload_n 0, 1) := by decide +kernel
theorem dX9_inPage_23 : decode cX9_inPage 23 = .ok (.getfield 7, 3) := by decide +kernel
theorem dX9_inPage_26 : decode cX9_inPage 26 = .ok (.aload_n 0, 1) := by decide +kernel
theorem dX9_inPage_27 : decode cX9_inPage 27 = .ok (.getfield 105, 3) := by decide +kernel
theorem dX9_inPage_30 : decode cX9_inPage 30 = .ok (.iconst 1, 1) := by decide +kernel
theorem dX9_inPage_31 : decode cX9_inPage 31 = .ok (.iadd, 1) := by decide +kernel
theorem dX9_inPage_32 : decode cX9_inPage 32 = .ok (.iaload, 1) := by decide +kernel
theorem dX9_inPage_33 : decode cX9_inPage 33 = .ok (.iconst 0, 1) := by decide +kernel
theorem dX9_inPage_34 : decode cX9_inPage 34 = .ok (.invokevirtual 148, 3) := by decide +kernel
theorem dX9_inPage_37 : decode cX9_inPage 37 = .ok (.ireturn, 1) := by decide +kernel
theorem dX9_inPage_38 : decode cX9_inPage 38 = .ok (.iload_n 1, 1) := by decide +kernel
theorem dX9_inPage_39 : decode cX9_inPage 39 = .ok (.sipush 131, 3) := by decide +kernel
theorem dX9_inPage_42 : decode cX9_inPage 42 = .ok (.if_icmp .ge 20, 3) := by decide +kernel
theorem dX9_inPage_45 : decode cX9_inPage 45 = .ok (.aload_n 0, 1) := by decide +kernel
theorem dX9_inPage_46 : decode cX9_inPage 46 = .ok (.iload_n 1, 1) := by decide +kernel
theorem dX9_inPage_47 : decode cX9_inPage 47 = .ok (.sipush 129, 3) := by decide +kernel
theorem dX9_inPage_50 : decode cX9_inPage 50 = .ok (.if_icmp .ne 7, 3) := by decide +kernel
theorem dX9_inPage_53 : decode cX9_inPage 53 = .ok (.iconst 1, 1) := by decide +kernel
theorem dX9_inPage_54 : decode cX9_inPage 54 = .ok (.goto 4, 3) := by decide +kernel
theorem dX9_inPage_57 : decode cX9_inPage 57 = .ok (.iconst 0, 1) := by decide +kernel
theorem dX9_inPage_58 : decode cX9_inPage 58 = .ok (.invokevirtual 152, 3) := by decide +kernel
theorem dX9_inPage_61 : decode cX9_inPage 61 = .ok (.ireturn, 1) := by decide +kernel
theorem dX9_inPage_62 : decode cX9_inPage 62 = .ok (.iload_n 1, 1) := by decide +kernel
theorem dX9_inPage_63 : decode cX9_inPage 63 = .ok (.sipush 134, 3) := by decide +kernel
theorem dX9_inPage_66 : decode cX9_inPage 66 = .ok (.if_icmp .ne 8, 3) := by decide +kernel
theorem dX9_inPage_69 : decode cX9_inPage 69 = .ok (.aload_n 0, 1) := by decide +kernel
theorem dX9_inPage_70 : decode cX9_inPage 70 = .ok (.invokevirtual 156, 3) := by decide +kernel
theorem dX9_inPage_73 : decode cX9_inPage 73 = .ok (.ireturn, 1) := by decide +kernel
theorem dX9_inPage_74 : decode cX9_inPage 74 = .ok (.iload_n 1, 1) := by decide +kernel
theorem dX9_inPage_75 : decode cX9_inPage 75 = .ok (.sipush 135, 3) := by decide +kernel
theorem dX9_inPage_78 : decode cX9_inPage 78 = .ok (.if_icmp .ne 8, 3) := by decide +kernel
theorem dX9_inPage_81 : decode cX9_inPage 81 = .ok (.aload_n 0, 1) := by decide +kernel
theorem dX9_inPage_82 : decode cX9_inPage 82 = .ok (.invokevirtual 160, 3) := by decide +kernel
theorem dX9_inPage_85 : decode cX9_inPage 85 = .ok (.ireturn, 1) := by decide +kernel
theorem dX9_inPage_86 : decode cX9_inPage 86 = .ok (.iload_n 1, 1) := by decide +kernel
theorem dX9_inPage_87 : decode cX9_inPage 87 = .ok (.sipush 136, 3) := by decide +kernel
theorem dX9_inPage_90 : decode cX9_inPage 90 = .ok (.if_icmp .lt 16, 3) := by decide +kernel
theorem dX9_inPage_93 : decode cX9_inPage 93 = .ok (.iload_n 1, 1) := by decide +kernel
theorem dX9_inPage_94 : decode cX9_inPage 94 = .ok (.sipush 157, 3) := by decide +kernel
theorem dX9_inPage_97 : decode cX9_inPage 97 = .ok (.if_icmp .gt 9, 3) := by decide +kernel
theorem dX9_inPage_100 : decode cX9_inPage 100 = .ok (.aload_n 0, 1) := by decide +kernel
theorem dX9_inPage_101 : decode cX9_inPage 101 = .ok (.iload_n 1, 1) := by decide +kernel
theorem dX9_inPage_102 : decode cX9_inPage 102 = .ok (.invokevirtual 163, 3) := by decide +kernel
theorem dX9_inPage_105 : decode cX9_inPage 105 = .ok (.ireturn, 1) := by decide +kernel
theorem dX9_inPage_106 : decode cX9_inPage 106 = .ok (.iload_n 1, 1) := by decide +kernel
theorem dX9_inPage_107 : decode cX9_inPage 107 = .ok (.sipush 158, 3) := by decide +kernel
theorem dX9_inPage_110 : decode cX9_inPage 110 = .ok (.if_icmp .lt 20, 3) := by decide +kernel
theorem dX9_inPage_113 : decode cX9_inPage 113 = .ok (.iload_n 1, 1) := by decide +kernel
theorem dX9_inPage_114 : decode cX9_inPage 114 = .ok (.sipush 165, 3) := by decide +kernel
theorem dX9_inPage_117 : decode cX9_inPage 117 = .ok (.if_icmp .gt 13, 3) := by decide +kernel
theorem dX9_inPage_120 : decode cX9_inPage 120 = .ok (.aload_n 0, 1) := by decide +kernel
theorem dX9_inPage_121 : decode cX9_inPage 121 = .ok (.iload_n 1, 1) := by decide +kernel
theorem dX9_inPage_122 : decode cX9_inPage 122 = .ok (.sipush 158, 3) := by decide +kernel
theorem dX9_inPage_125 : decode cX9_inPage 125 = .ok (.isub, 1) := by decide +kernel
theorem dX9_inPage_126 : decode cX9_inPage 126 = .ok (.invokevirtual 167, 3) := by decide +kernel
theorem dX9_inPage_129 : decode cX9_inPage 129 = .ok (.ireturn, 1) := by decide +kernel
theorem dX9_inPage_130 : decode cX9_inPage 130 = .ok (.iload_n 1, 1) := by decide +kernel
theorem dX9_inPage_131 : decode cX9_inPage 131 = .ok (.sipush 133, 3) := by decide +kernel
theorem dX9_inPage_134 : decode cX9_inPage 134 = .ok (.if_icmp .eq 5, 3) := by decide +kernel
theorem dX9_inPage_137 : decode cX9_inPage 137 = .ok (.iconst 0, 1) := by decide +kernel
theorem dX9_inPage_138 : decode cX9_inPage 138 = .ok (.ireturn, 1) := by decide +kernel
theorem dX9_inPage_139 : decode cX9_inPage 139 = .ok (.aload_n 0, 1) := by decide +kernel
theorem dX9_inPage_140 : decode cX9_inPage 140 = .ok (.iconst 1, 1) := by decide +kernel
theorem dX9_inPage_141 : decode cX9_inPage 141 = .ok (.putfield 128, 3) := by decide +kernel
theorem dX9_inPage_144 : decode cX9_inPage 144 = .ok (.aload_n 0, 1) := by decide +kernel
theorem dX9_inPage_145 : decode cX9_inPage 145 = .ok (.getfield 111, 3) := by decide +kernel
theorem dX9_inPage_148 : decode cX9_inPage 148 = .ok (.ifCond .ne 7, 3) := by decide +kernel
theorem dX9_inPage_151 : decode cX9_inPage 151 = .ok (.iconst 1, 1) := by decide +kernel
theorem dX9_inPage_152 : decode cX9_inPage 152 = .ok (.goto 4, 3) := by decide +kernel
theorem dX9_inPage_155 : decode cX9_inPage 155 = .ok (.iconst 0, 1) := by decide +kernel
theorem dX9_inPage_156 : decode cX9_inPage 156 = .ok (.ireturn, 1) := by decide +kernel
set_option maxRecDepth 20000 in
theorem ggX9_command_X9_behind : GoodIn wsX9_command wsX9_behind := goodIn_r _ [8, 9, 10, 7, 11] (by decide +kernel) (by decide +kernel)
set_option maxRecDepth 20000 in
theorem gX9_command_X9_behind : GoodIn wsX9_command (va_wsS RX9 170 yX9_behind wsX9_behind) := goodIn_app (goodIn_of _ (by decide +kernel)) ggX9_command_X9_behind
set_option maxRecDepth 20000 in
theorem ggX9_command_X9_start : GoodIn wsX9_command wsX9_start := goodIn_r _ [15, 2, 16, 17, 18, 1, 19, 20, 4, 21, 22, 23, 7, 24, 125, 126, 127, 128, 129, 130, 131, 132, 133, 134, 135, 136, 137, 138, 139, 140, 141, 142, 143, 144, 145, 146, 147, 148, 149, 150, 151, 152, 153, 154] (by decide +kernel) (by decide +kernel)
set_option maxRecDepth 20000 in
theorem gX9_command_X9_start : GoodIn wsX9_command (wsV RX9 173 RX9 yX9_start wsX9_start) := goodIn_app (goodIn_of _ (by decide +kernel)) ggX9_command_X9_start
set_option maxRecDepth 20000 in
theorem ggX9_command_X9_define : GoodIn wsX9_command wsX9_define := goodIn_r _ [28, 1, 2, 4, 29, 30, 31, 32, 21, 22, 23, 7, 24, 125, 126, 127, 128, 129, 130, 131, 132, 133, 134, 135, 136, 137, 138, 139, 140, 141, 142, 143, 144, 145, 146, 147, 148, 149, 150, 151, 152, 153, 154] (by decide +kernel) (by decide +kernel)
set_option maxRecDepth 20000 in
theorem gX9_command_X9_define : GoodIn wsX9_command (wsV RX9 176 RX9 yX9_define wsX9_define) := goodIn_app (goodIn_of _ (by decide +kernel)) ggX9_command_X9_define
set_option maxRecDepth 20000 in
theorem ggX9_command_X9_inPage : GoodIn wsX9_command wsX9_inPage := goodIn_r _ [36, 1, 2, 4, 37, 38, 39, 40, 7, 41, 42, 43, 44, 45, 46, 47, 48, 49, 50, 51, 52, 53, 54, 55, 56, 20, 57, 58, 59, 60, 61, 62, 63, 64, 65, 66, 67, 68, 69, 70, 71, 72, 73, 74, 75, 76, 77, 21, 22, 23, 24, 78, 79, 80, 81, 82, 83, 84, 85, 86, 87, 88, 89, 90, 91, 9, 10, 11, 92, 93, 94, 95, 32, 96, 97, 98, 99, 100, 101, 102, 103, 104, 105, 106, 107, 29, 125, 126, 127, 128, 129, 130, 131, 132, 133, 134, 135, 136, 137, 138, 139, 140, 141, 142, 143, 144, 145, 146, 147, 148, 149, 150, 151, 152, 153, 154] (by decide +kernel) (by decide +kernel)
set_option maxRecDepth 20000 in
theorem gX9_command_X9_inPage : GoodIn wsX9_command (wsV RX9 179 RX9 yX9_inPage wsX9_inPage) := goodIn_app (goodIn_of _ (by decide +kernel)) ggX9_command_X9_inPage
set_option maxRecDepth 20000 in
theorem ggX9_command_X9_beginPage : GoodIn wsX9_command wsX9_beginPage := goodIn_r _ [111, 52, 2, 112, 113, 51, 114, 48, 115, 4, 42, 37, 50, 21, 22, 23, 7, 24, 1, 74, 75, 76, 77, 125, 126, 127, 128, 129, 130, 131, 132, 133, 134, 135, 136, 137, 138, 139, 140, 141, 142, 143, 144, 145, 146, 147, 148, 149, 150, 151, 152, 153, 154] (by decide +kernel) (by decide +kernel)
set_option maxRecDepth 20000 in
theorem gX9_command_X9_beginPage : GoodIn wsX9_command (wsV RX9 182 RX9 yX9_beginPage wsX9_beginPage) := goodIn_app (goodIn_of _ (by decide +kernel)) ggX9_command_X9_beginPage
set_option maxRecDepth 20000 in
theorem ggX9_command_X9_last : GoodIn wsX9_command wsX9_last := goodIn_r _ [119, 2, 112, 16, 17, 18, 120, 4, 1, 83, 52, 21, 22, 23, 7, 24, 125, 126, 127, 128, 129, 130, 131, 132, 133, 134, 135, 136, 137, 138, 139, 140, 141, 142, 143, 144, 145, 146, 147, 148, 149, 150, 151, 152, 153, 154] (by decide +kernel) (by decide +kernel)
set_option maxRecDepth 20000 in
theorem gX9_command_X9_last : GoodIn wsX9_command (wsV RX9 185 RX9 yX9_last wsX9_last) := goodIn_app (goodIn_of _ (by decide +kernel)) ggX9_command_X9_last
set_option maxRecDepth 20000 in
theorem ggX9_command_X9_close : GoodIn wsX9_command wsX9_close := goodIn_r _ [124, 2, 120, 1, 3, 29, 30, 4, 21, 22, 23, 7, 24, 125, 126, 127, 128, 129, 130, 131, 132, 133, 134, 135, 136, 137, 138, 139, 140, 141, 142, 143, 144, 145, 146, 147, 148, 149, 150, 151, 152, 153, 154] (by decide +kernel) (by decide +kernel)
set_option maxRecDepth 20000 in
theorem gX9_command_X9_close : GoodIn wsX9_command (wsV RX9 188 RX9 yX9_close wsX9_close) := goodIn_app (goodIn_of _ (by decide +kernel)) ggX9_command_X9_close
theorem dX9_command_0 : decode cX9_command 0 = .ok (.aload_n 0, 1) := by decide +kernel
theorem dX9_command_1 : decode cX9_command 1 = .ok (.getfield 7, 3) := by decide +kernel
theorem dX9_command_4 : decode cX9_command 4 = .ok (.aload_n 0, 1) := by decide +kernel
theorem dX9_command_5 : decode cX9_command 5 = .ok (.getfield 105, 3) := by decide +kernel
theorem dX9_command_8 : decode cX9_command 8 = .ok (.iaload, 1) := by decide +kernel
theorem dX9_command_9 : decode cX9_command 9 = .ok (.istore_n 1, 1) := by decide +kernel
theorem dX9_command_10 : decode cX9_command 10 = .ok (.iload_n 1, 1) := by decide +kernel
theorem dX9_command_11 : decode cX9_command 11 = .ok (.invokestatic 170, 3) := by decide +kernel
theorem dX9_command_14 : decode cX9_command 14 = .ok (.istore_n 2, 1) := by decide +kernel
theorem dX9_command_15 : decode cX9_command 15 = .ok (.iload_n 2, 1) := by decide +kernel
theorem dX9_command_16 : decode cX9_command 16 = .ok (.ifCond .lt 16, 3) := by decide +kernel
theorem dX9_command_19 : decode cX9_command 19 = .ok (.aload_n 0, 1) := by decide +kernel
theorem dX9_command_20 : decode cX9_command 20 = .ok (.getfield 105, 3) := by decide +kernel
theorem dX9_command_23 : decode cX9_command 23 = .ok (.iload_n 2, 1) := by decide +kernel
theorem dX9_command_24 : decode cX9_command 24 = .ok (.iadd, 1) := by decide +kernel
theorem dX9_command_25 : decode cX9_command 25 = .ok (.aload_n 0, 1) := by decide +kernel
theorem dX9_command_26 : decode cX9_command 26 = .ok (.getfield 61, 3) := by decide +kernel
theorem dX9_command_29 : decode cX9_command 29 = .ok (.if_icmp .lt 5, 3) := by decide +kernel
theorem dX9_command_32 : decode cX9_command 32 = .ok (.iconst 0, 1) := by decide +kernel
theorem dX9_command_33 : decode cX9_command 33 = .ok (.ireturn, 1) := by decide +kernel
theorem dX9_command_34 : decode cX9_command 34 = .ok (.aload_n 0, 1) := by decide +kernel
theorem dX9_command_35 : decode cX9_command 35 = .ok (.getfield 128, 3) := by decide +kernel
theorem dX9_command_38 : decode cX9_command 38 = .ok (.ifCond .ne 23, 3) := by decide +kernel
theorem dX9_command_41 : decode cX9_command 41 = .ok (.iload_n 1, 1) := by decide +kernel
theorem dX9_command_42 : decode cX9_command 42 = .ok (.sipush 167, 3) := by decide +kernel
theorem dX9_command_45 : decode cX9_command 45 = .ok (.if_icmp .ne 14, 3) := by decide +kernel
theorem dX9_command_48 : decode cX9_command 48 = .ok (.aload_n 0, 1) := by decide +kernel
theorem dX9_command_49 : decode cX9_command 49 = .ok (.invokevirtual 173, 3) := by decide +kernel
theorem dX9_command_52 : decode cX9_command 52 = .ok (.ifCond .eq 7, 3) := by decide +kernel
theorem dX9_command_55 : decode cX9_command 55 = .ok (.iconst 1, 1) := by decide +kernel
theorem dX9_command_56 : decode cX9_command 56 = .ok (.goto 4, 3) := by decide +kernel
theorem dX9_command_59 : decode cX9_command 59 = .ok (.iconst 0, 1) := by decide +kernel
theorem dX9_command_60 : decode cX9_command 60 = .ok (.ireturn, 1) := by decide +kernel
theorem dX9_command_61 : decode cX9_command 61 = .ok (.iload_n 1, 1) := by decide +kernel
theorem dX9_command_62 : decode cX9_command 62 = .ok (.sipush 131, 3) := by decide +kernel
theorem dX9_command_65 : decode cX9_command 65 = .ok (.if_icmp .ne 5, 3) := by decide +kernel
theorem dX9_command_68 : decode cX9_command 68 = .ok (.iconst 1, 1) := by decide +kernel
theorem dX9_command_69 : decode cX9_command 69 = .ok (.ireturn, 1) := by decide +kernel
theorem dX9_command_70 : decode cX9_command 70 = .ok (.iload_n 1, 1) := by decide +kernel
theorem dX9_command_71 : decode cX9_command 71 = .ok (.sipush 166, 3) := by decide +kernel
theorem dX9_command_74 : decode cX9_command 74 = .ok (.if_icmp .ne 8, 3) := by decide +kernel
theorem dX9_command_77 : decode cX9_command 77 = .ok (.aload_n 0, 1) := by decide +kernel
theorem dX9_command_78 : decode cX9_command 78 = .ok (.invokevirtual 176, 3) := by decide +kernel
theorem dX9_command_81 : decode cX9_command 81 = .ok (.ireturn, 1) := by decide +kernel
theorem dX9_command_82 : decode cX9_command 82 = .ok (.aload_n 0, 1) := by decide +kernel
theorem dX9_command_83 : decode cX9_command 83 = .ok (.getfield 128, 3) := by decide +kernel
theorem dX9_command_86 : decode cX9_command 86 = .ok (.iconst 2, 1) := by decide +kernel
theorem dX9_command_87 : decode cX9_command 87 = .ok (.if_icmp .ne 9, 3) := by decide +kernel
theorem dX9_command_90 : decode cX9_command 90 = .ok (.aload_n 0, 1) := by decide +kernel
theorem dX9_command_91 : decode cX9_command 91 = .ok (.iload_n 1, 1) := by decide +kernel
theorem dX9_command_92 : decode cX9_command 92 = .ok (.invokevirtual 179, 3) := by decide +kernel
theorem dX9_command_95 : decode cX9_command 95 = .ok (.ireturn, 1) := by decide +kernel
theorem dX9_command_96 : decode cX9_command 96 = .ok (.aload_n 0, 1) := by decide +kernel
theorem dX9_command_97 : decode cX9_command 97 = .ok (.getfield 128, 3) := by decide +kernel
theorem dX9_command_100 : decode cX9_command 100 = .ok (.iconst 1, 1) := by decide +kernel
theorem dX9_command_101 : decode cX9_command 101 = .ok (.if_icmp .ne 37, 3) := by decide +kernel
theorem dX9_command_104 : decode cX9_command 104 = .ok (.iload_n 1, 1) := by decide +kernel
theorem dX9_command_105 : decode cX9_command 105 = .ok (.sipush 132, 3) := by decide +kernel
theorem dX9_command_108 : decode cX9_command 108 = .ok (.if_icmp .ne 10, 3) := by decide +kernel
theorem dX9_command_111 : decode cX9_command 111 = .ok (.aload_n 0, 1) := by decide +kernel
theorem dX9_command_112 : decode cX9_command 112 = .ok (.invokevirtual 182, 3) := by decide +kernel
theorem dX9_command_115 : decode cX9_command 115 = .ok (.goto 22, 3) := by decide +kernel
theorem dX9_command_118 : decode cX9_command 118 = .ok (.iload_n 1, 1) := by decide +kernel
theorem dX9_command_119 : decode cX9_command 119 = .ok (.sipush 168, 3) := by decide +kernel
theorem dX9_command_122 : decode cX9_command 122 = .ok (.if_icmp .ne 14, 3) := by decide +kernel
theorem dX9_command_125 : decode cX9_command 125 = .ok (.aload_n 0, 1) := by decide +kernel
theorem dX9_command_126 : decode cX9_command 126 = .ok (.invokevirtual 185, 3) := by decide +kernel
theorem dX9_command_129 : decode cX9_command 129 = .ok (.ifCond .eq 7, 3) := by decide +kernel
theorem dX9_command_132 : decode cX9_command 132 = .ok (.iconst 1, 1) := by decide +kernel
theorem dX9_command_133 : decode cX9_command 133 = .ok (.goto 4, 3) := by decide +kernel
theorem dX9_command_136 : decode cX9_command 136 = .ok (.iconst 0, 1) := by decide +kernel
theorem dX9_command_137 : decode cX9_command 137 = .ok (.ireturn, 1) := by decide +kernel
theorem dX9_command_138 : decode cX9_command 138 = .ok (.iload_n 1, 1) := by decide +kernel
theorem dX9_command_139 : decode cX9_command 139 = .ok (.sipush 169, 3) := by decide +kernel
theorem dX9_command_142 : decode cX9_command 142 = .ok (.if_icmp .ne 14, 3) := by decide +kernel
theorem dX9_command_145 : decode cX9_command 145 = .ok (.aload_n 0, 1) := by decide +kernel
theorem dX9_command_146 : decode cX9_command 146 = .ok (.invokevirtual 188, 3) := by decide +kernel
theorem dX9_command_149 : decode cX9_command 149 = .ok (.ifCond .eq 7, 3) := by decide +kernel
theorem dX9_command_152 : decode cX9_command 152 = .ok (.iconst 1, 1) := by decide +kernel
theorem dX9_command_153 : decode cX9_command 153 = .ok (.goto 4, 3) := by decide +kernel
theorem dX9_command_156 : decode cX9_command 156 = .ok (.iconst 0, 1) := by decide +kernel
theorem dX9_command_157 : decode cX9_command 157 = .ok (.ireturn, 1) := by decide +kernel
set_option maxRecDepth 20000 in
theorem ggX9_read_X9_command : GoodIn wsX9_read wsX9_command := goodIn_r _ [19, 14, 5, 13, 6, 20, 21, 18, 22, 23, 24, 25, 26, 27, 28, 29, 30, 31, 32, 33, 34, 35, 36, 37, 38, 39, 40, 41, 42, 11, 12, 43, 44, 45, 46, 47, 48, 49, 50, 51, 52, 53, 54, 55, 56, 57, 58, 59, 4, 60, 61, 62, 3, 63, 64, 65, 66, 67, 68, 69, 70, 71, 72, 73, 74, 75, 76, 77, 78, 79, 80, 81, 82, 83, 84, 85, 86, 87, 88, 89, 90, 91, 92, 9, 93, 94, 95, 96, 97, 98, 99, 100, 101, 102, 103, 104, 105, 106, 107, 108, 109, 110, 111, 112, 113, 114, 115, 116, 117, 118, 119, 120, 8, 121, 122, 123, 124, 125, 126, 127, 128, 129, 130, 131, 132, 137, 138, 139, 140, 141, 142, 143, 144, 145, 146, 147, 148, 149, 150, 151, 152, 153, 154, 155, 156, 157, 158, 159, 160, 161, 162, 163, 164, 165, 166] (by decide +kernel) (by decide +kernel)
set_option maxRecDepth 20000 in
theorem gX9_read_X9_command : GoodIn wsX9_read (wsV RX9 196 RX9 yX9_command wsX9_command) := goodIn_app (goodIn_of _ (by decide +kernel)) ggX9_read_X9_command
set_option maxRecDepth 20000 in
theorem ggX9_read_X9_refuse : GoodIn wsX9_read wsX9_refuse := goodIn_r _ [136, 1, 137, 138, 139, 140, 141, 142, 143, 144, 145, 146, 147, 148, 149, 150, 151, 152, 153, 154, 155, 156, 157, 158, 159, 160, 161, 162, 163, 164, 165, 166] (by decide +kernel) (by decide +kernel)
set_option maxRecDepth 20000 in
theorem gX9_read_X9_refuse : GoodIn wsX9_read (wsV RX9 57 RX9 yX9_refuse wsX9_refuse) := goodIn_app (goodIn_of _ (by decide +kernel)) ggX9_read_X9_refuse
set_option maxRecDepth 20000 in
theorem ggX9_read_X9_behind : GoodIn wsX9_read wsX9_behind := goodIn_r _ [22, 23, 24, 18, 25] (by decide +kernel) (by decide +kernel)
set_option maxRecDepth 20000 in
theorem gX9_read_X9_behind : GoodIn wsX9_read (va_wsS RX9 170 yX9_behind wsX9_behind) := goodIn_app (goodIn_of _ (by decide +kernel)) ggX9_read_X9_behind
theorem dX9_read_0 : decode cX9_read 0 = .ok (.aload_n 0, 1) := by decide +kernel
theorem dX9_read_1 : decode cX9_read 1 = .ok (.iconst 0, 1) := by decide +kernel
theorem dX9_read_2 : decode cX9_read 2 = .ok (.putfield 54, 3) := by decide +kernel
theorem dX9_read_5 : decode cX9_read 5 = .ok (.aload_n 0, 1) := by decide +kernel
theorem dX9_read_6 : decode cX9_read 6 = .ok (.iconst 0, 1) := by decide +kernel
theorem dX9_read_7 : decode cX9_read 7 = .ok (.putfield 191, 3) := by decide +kernel
theorem dX9_read_10 : decode cX9_read 10 = .ok (.aload_n 0, 1) := by decide +kernel
theorem dX9_read_11 : decode cX9_read 11 = .ok (.iconst 0, 1) := by decide +kernel
theorem dX9_read_12 : decode cX9_read 12 = .ok (.putfield 95, 3) := by decide +kernel
theorem dX9_read_15 : decode cX9_read 15 = .ok (.aload_n 0, 1) := by decide +kernel
theorem dX9_read_16 : decode cX9_read 16 = .ok (.iconst 0, 1) := by decide +kernel
theorem dX9_read_17 : decode cX9_read 17 = .ok (.putfield 89, 3) := by decide +kernel
theorem dX9_read_20 : decode cX9_read 20 = .ok (.aload_n 0, 1) := by decide +kernel
theorem dX9_read_21 : decode cX9_read 21 = .ok (.iconst 0, 1) := by decide +kernel
theorem dX9_read_22 : decode cX9_read 22 = .ok (.putfield 105, 3) := by decide +kernel
theorem dX9_read_25 : decode cX9_read 25 = .ok (.aload_n 0, 1) := by decide +kernel
theorem dX9_read_26 : decode cX9_read 26 = .ok (.iconst 0, 1) := by decide +kernel
theorem dX9_read_27 : decode cX9_read 27 = .ok (.putfield 128, 3) := by decide +kernel
theorem dX9_read_30 : decode cX9_read 30 = .ok (.aload_n 0, 1) := by decide +kernel
theorem dX9_read_31 : decode cX9_read 31 = .ok (.ldc 195, 2) := by decide +kernel
theorem dX9_read_33 : decode cX9_read 33 = .ok (.putfield 142, 3) := by decide +kernel
theorem dX9_read_36 : decode cX9_read 36 = .ok (.aload_n 0, 1) := by decide +kernel
theorem dX9_read_37 : decode cX9_read 37 = .ok (.iconst 0, 1) := by decide +kernel
theorem dX9_read_38 : decode cX9_read 38 = .ok (.putfield 114, 3) := by decide +kernel
theorem dX9_read_41 : decode cX9_read 41 = .ok (.aload_n 0, 1) := by decide +kernel
theorem dX9_read_42 : decode cX9_read 42 = .ok (.iconst (-1), 1) := by decide +kernel
theorem dX9_read_43 : decode cX9_read 43 = .ok (.putfield 29, 3) := by decide +kernel
theorem dX9_read_46 : decode cX9_read 46 = .ok (.iconst 0, 1) := by decide +kernel
theorem dX9_read_47 : decode cX9_read 47 = .ok (.istore_n 1, 1) := by decide +kernel
theorem dX9_read_48 : decode cX9_read 48 = .ok (.iload_n 1, 1) := by decide +kernel
theorem dX9_read_49 : decode cX9_read 49 = .ok (.bipush 8, 2) := by decide +kernel
theorem dX9_read_51 : decode cX9_read 51 = .ok (.if_icmp .ge 23, 3) := by decide +kernel
theorem dX9_read_54 : decode cX9_read 54 = .ok (.aload_n 0, 1) := by decide +kernel
theorem dX9_read_55 : decode cX9_read 55 = .ok (.getfield 16, 3) := by decide +kernel
theorem dX9_read_58 : decode cX9_read 58 = .ok (.iload_n 1, 1) := by decide +kernel
theorem dX9_read_59 : decode cX9_read 59 = .ok (.iconst 0, 1) := by decide +kernel
theorem dX9_read_60 : decode cX9_read 60 = .ok (.bastore, 1) := by decide +kernel
theorem dX9_read_61 : decode cX9_read 61 = .ok (.aload_n 0, 1) := by decide +kernel
theorem dX9_read_62 : decode cX9_read 62 = .ok (.getfield 20, 3) := by decide +kernel
theorem dX9_read_65 : decode cX9_read 65 = .ok (.iload_n 1, 1) := by decide +kernel
theorem dX9_read_66 : decode cX9_read 66 = .ok (.iconst 0, 1) := by decide +kernel
theorem dX9_read_67 : decode cX9_read 67 = .ok (.bastore, 1) := by decide +kernel
theorem dX9_read_68 : decode cX9_read 68 = .ok (.iinc 1 1, 3) := by decide +kernel
theorem dX9_read_71 : decode cX9_read 71 = .ok (.goto (-23), 3) := by decide +kernel
