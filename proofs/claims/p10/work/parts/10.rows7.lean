theorem dX9_read_74 : decode cX9_read 74 = .ok (.aload_n 0, 1) := by decide +kernel
theorem dX9_read_75 : decode cX9_read 75 = .ok (.getfield 128, 3) := by decide +kernel
theorem dX9_read_78 : decode cX9_read 78 = .ok (.iconst 4, 1) := by decide +kernel
theorem dX9_read_79 : decode cX9_read 79 = .ok (.if_icmp .ge 61, 3) := by decide +kernel
theorem dX9_read_82 : decode cX9_read 82 = .ok (.aload_n 0, 1) := by decide +kernel
theorem dX9_read_83 : decode cX9_read 83 = .ok (.getfield 105, 3) := by decide +kernel
theorem dX9_read_86 : decode cX9_read 86 = .ok (.aload_n 0, 1) := by decide +kernel
theorem dX9_read_87 : decode cX9_read 87 = .ok (.getfield 61, 3) := by decide +kernel
theorem dX9_read_90 : decode cX9_read 90 = .ok (.if_icmp .ge 10, 3) := by decide +kernel
theorem dX9_read_93 : decode cX9_read 93 = .ok (.aload_n 0, 1) := by decide +kernel
theorem dX9_read_94 : decode cX9_read 94 = .ok (.invokevirtual 196, 3) := by decide +kernel
theorem dX9_read_97 : decode cX9_read 97 = .ok (.ifCond .ne 17, 3) := by decide +kernel
theorem dX9_read_100 : decode cX9_read 100 = .ok (.aload_n 0, 1) := by decide +kernel
theorem dX9_read_101 : decode cX9_read 101 = .ok (.aload_n 0, 1) := by decide +kernel
theorem dX9_read_102 : decode cX9_read 102 = .ok (.getfield 105, 3) := by decide +kernel
theorem dX9_read_105 : decode cX9_read 105 = .ok (.putfield 29, 3) := by decide +kernel
theorem dX9_read_108 : decode cX9_read 108 = .ok (.aload_n 0, 1) := by decide +kernel
theorem dX9_read_109 : decode cX9_read 109 = .ok (.iconst 1, 1) := by decide +kernel
theorem dX9_read_110 : decode cX9_read 110 = .ok (.invokevirtual 57, 3) := by decide +kernel
theorem dX9_read_113 : decode cX9_read 113 = .ok (.ireturn, 1) := by decide +kernel
theorem dX9_read_114 : decode cX9_read 114 = .ok (.aload_n 0, 1) := by decide +kernel
theorem dX9_read_115 : decode cX9_read 115 = .ok (.dup, 1) := by decide +kernel
theorem dX9_read_116 : decode cX9_read 116 = .ok (.getfield 105, 3) := by decide +kernel
theorem dX9_read_119 : decode cX9_read 119 = .ok (.iconst 1, 1) := by decide +kernel
theorem dX9_read_120 : decode cX9_read 120 = .ok (.aload_n 0, 1) := by decide +kernel
theorem dX9_read_121 : decode cX9_read 121 = .ok (.getfield 7, 3) := by decide +kernel
theorem dX9_read_124 : decode cX9_read 124 = .ok (.aload_n 0, 1) := by decide +kernel
theorem dX9_read_125 : decode cX9_read 125 = .ok (.getfield 105, 3) := by decide +kernel
theorem dX9_read_128 : decode cX9_read 128 = .ok (.iaload, 1) := by decide +kernel
theorem dX9_read_129 : decode cX9_read 129 = .ok (.invokestatic 170, 3) := by decide +kernel
theorem dX9_read_132 : decode cX9_read 132 = .ok (.iadd, 1) := by decide +kernel
theorem dX9_read_133 : decode cX9_read 133 = .ok (.iadd, 1) := by decide +kernel
theorem dX9_read_134 : decode cX9_read 134 = .ok (.putfield 105, 3) := by decide +kernel
theorem dX9_read_137 : decode cX9_read 137 = .ok (.goto (-63), 3) := by decide +kernel
theorem dX9_read_140 : decode cX9_read 140 = .ok (.aload_n 0, 1) := by decide +kernel
theorem dX9_read_141 : decode cX9_read 141 = .ok (.iconst 1, 1) := by decide +kernel
theorem dX9_read_142 : decode cX9_read 142 = .ok (.putfield 191, 3) := by decide +kernel
theorem dX9_read_145 : decode cX9_read 145 = .ok (.aload_n 0, 1) := by decide +kernel
theorem dX9_read_146 : decode cX9_read 146 = .ok (.getfield 95, 3) := by decide +kernel
theorem dX9_read_149 : decode cX9_read 149 = .ok (.ireturn, 1) := by decide +kernel
theorem dX9_wrong_0 : decode cX9_wrong 0 = .ok (.aload_n 0, 1) := by decide +kernel
theorem dX9_wrong_1 : decode cX9_wrong 1 = .ok (.iconst 0, 1) := by decide +kernel
theorem dX9_wrong_2 : decode cX9_wrong 2 = .ok (.putfield 54, 3) := by decide +kernel
theorem dX9_wrong_5 : decode cX9_wrong 5 = .ok (.aload_n 0, 1) := by decide +kernel
theorem dX9_wrong_6 : decode cX9_wrong 6 = .ok (.getfield 29, 3) := by decide +kernel
theorem dX9_wrong_9 : decode cX9_wrong 9 = .ok (.ireturn, 1) := by decide +kernel
set_option maxRecDepth 20000 in
theorem ggX9_page_X9_refuse : GoodIn wsX9_page wsX9_refuse := goodIn_r _ [11, 1, 12, 13, 14, 15, 16, 17, 18, 19, 20, 21, 22, 23, 24, 25, 26, 27, 28, 29, 30, 31, 32, 33, 34, 35, 36, 37, 38, 39, 40, 41] (by decide +kernel) (by decide +kernel)
set_option maxRecDepth 20000 in
theorem gX9_page_X9_refuse : GoodIn wsX9_page (wsV RX9 57 RX9 yX9_refuse wsX9_refuse) := goodIn_app (goodIn_of _ (by decide +kernel)) ggX9_page_X9_refuse
theorem dX9_page_0 : decode cX9_page 0 = .ok (.aload_n 0, 1) := by decide +kernel
theorem dX9_page_1 : decode cX9_page 1 = .ok (.iconst 0, 1) := by decide +kernel
theorem dX9_page_2 : decode cX9_page 2 = .ok (.putfield 54, 3) := by decide +kernel
theorem dX9_page_5 : decode cX9_page 5 = .ok (.aload_n 0, 1) := by decide +kernel
theorem dX9_page_6 : decode cX9_page 6 = .ok (.getfield 191, 3) := by decide +kernel
theorem dX9_page_9 : decode cX9_page 9 = .ok (.ifCond .eq 24, 3) := by decide +kernel
theorem dX9_page_12 : decode cX9_page 12 = .ok (.iload_n 1, 1) := by decide +kernel
theorem dX9_page_13 : decode cX9_page 13 = .ok (.ifCond .lt 20, 3) := by decide +kernel
theorem dX9_page_16 : decode cX9_page 16 = .ok (.iload_n 1, 1) := by decide +kernel
theorem dX9_page_17 : decode cX9_page 17 = .ok (.aload_n 0, 1) := by decide +kernel
theorem dX9_page_18 : decode cX9_page 18 = .ok (.getfield 95, 3) := by decide +kernel
theorem dX9_page_21 : decode cX9_page 21 = .ok (.if_icmp .ge 12, 3) := by decide +kernel
theorem dX9_page_24 : decode cX9_page 24 = .ok (.iload_n 2, 1) := by decide +kernel
theorem dX9_page_25 : decode cX9_page 25 = .ok (.ifCond .lt 8, 3) := by decide +kernel
theorem dX9_page_28 : decode cX9_page 28 = .ok (.iload_n 2, 1) := by decide +kernel
theorem dX9_page_29 : decode cX9_page 29 = .ok (.iconst 2, 1) := by decide +kernel
theorem dX9_page_30 : decode cX9_page 30 = .ok (.if_icmp .le 9, 3) := by decide +kernel
theorem dX9_page_33 : decode cX9_page 33 = .ok (.aload_n 0, 1) := by decide +kernel
theorem dX9_page_34 : decode cX9_page 34 = .ok (.iconst 1, 1) := by decide +kernel
theorem dX9_page_35 : decode cX9_page 35 = .ok (.invokevirtual 57, 3) := by decide +kernel
theorem dX9_page_38 : decode cX9_page 38 = .ok (.ireturn, 1) := by decide +kernel
theorem dX9_page_39 : decode cX9_page 39 = .ok (.iload_n 2, 1) := by decide +kernel
theorem dX9_page_40 : decode cX9_page 40 = .ok (.ifCond .ne 12, 3) := by decide +kernel
theorem dX9_page_43 : decode cX9_page 43 = .ok (.aload_n 0, 1) := by decide +kernel
theorem dX9_page_44 : decode cX9_page 44 = .ok (.getfield 33, 3) := by decide +kernel
theorem dX9_page_47 : decode cX9_page 47 = .ok (.iload_n 1, 1) := by decide +kernel
theorem dX9_page_48 : decode cX9_page 48 = .ok (.iaload, 1) := by decide +kernel
theorem dX9_page_49 : decode cX9_page 49 = .ok (.goto 23, 3) := by decide +kernel
theorem dX9_page_52 : decode cX9_page 52 = .ok (.iload_n 2, 1) := by decide +kernel
theorem dX9_page_53 : decode cX9_page 53 = .ok (.iconst 1, 1) := by decide +kernel
theorem dX9_page_54 : decode cX9_page 54 = .ok (.if_icmp .ne 12, 3) := by decide +kernel
theorem dX9_page_57 : decode cX9_page 57 = .ok (.aload_n 0, 1) := by decide +kernel
theorem dX9_page_58 : decode cX9_page 58 = .ok (.getfield 36, 3) := by decide +kernel
theorem dX9_page_61 : decode cX9_page 61 = .ok (.iload_n 1, 1) := by decide +kernel
theorem dX9_page_62 : decode cX9_page 62 = .ok (.iaload, 1) := by decide +kernel
theorem dX9_page_63 : decode cX9_page 63 = .ok (.goto 9, 3) := by decide +kernel
theorem dX9_page_66 : decode cX9_page 66 = .ok (.aload_n 0, 1) := by decide +kernel
theorem dX9_page_67 : decode cX9_page 67 = .ok (.getfield 42, 3) := by decide +kernel
theorem dX9_page_70 : decode cX9_page 70 = .ok (.iload_n 1, 1) := by decide +kernel
theorem dX9_page_71 : decode cX9_page 71 = .ok (.iaload, 1) := by decide +kernel
theorem dX9_page_72 : decode cX9_page 72 = .ok (.ireturn, 1) := by decide +kernel
set_option maxRecDepth 20000 in
theorem ggX9_item_X9_refuse : GoodIn wsX9_item wsX9_refuse := goodIn_r _ [11, 1, 12, 13, 14, 15, 16, 17, 18, 19, 20, 21, 22, 23, 24, 25, 26, 27, 28, 29, 30, 31, 32, 33, 34, 35, 36, 37, 38, 39, 40, 41] (by decide +kernel) (by decide +kernel)
set_option maxRecDepth 20000 in
theorem gX9_item_X9_refuse : GoodIn wsX9_item (wsV RX9 57 RX9 yX9_refuse wsX9_refuse) := goodIn_app (goodIn_of _ (by decide +kernel)) ggX9_item_X9_refuse
theorem dX9_item_0 : decode cX9_item 0 = .ok (.aload_n 0, 1) := by decide +kernel
theorem dX9_item_1 : decode cX9_item 1 = .ok (.iconst 0, 1) := by decide +kernel
theorem dX9_item_2 : decode cX9_item 2 = .ok (.putfield 54, 3) := by decide +kernel
theorem dX9_item_5 : decode cX9_item 5 = .ok (.aload_n 0, 1) := by decide +kernel
theorem dX9_item_6 : decode cX9_item 6 = .ok (.getfield 191, 3) := by decide +kernel
theorem dX9_item_9 : decode cX9_item 9 = .ok (.ifCond .eq 39, 3) := by decide +kernel
theorem dX9_item_12 : decode cX9_item 12 = .ok (.iload_n 1, 1) := by decide +kernel
theorem dX9_item_13 : decode cX9_item 13 = .ok (.ifCond .lt 35, 3) := by decide +kernel
theorem dX9_item_16 : decode cX9_item 16 = .ok (.iload_n 1, 1) := by decide +kernel
theorem dX9_item_17 : decode cX9_item 17 = .ok (.aload_n 0, 1) := by decide +kernel
theorem dX9_item_18 : decode cX9_item 18 = .ok (.getfield 95, 3) := by decide +kernel
theorem dX9_item_21 : decode cX9_item 21 = .ok (.if_icmp .ge 27, 3) := by decide +kernel
theorem dX9_item_24 : decode cX9_item 24 = .ok (.iload_n 2, 1) := by decide +kernel
theorem dX9_item_25 : decode cX9_item 25 = .ok (.ifCond .lt 23, 3) := by decide +kernel
theorem dX9_item_28 : decode cX9_item 28 = .ok (.iload_n 2, 1) := by decide +kernel
theorem dX9_item_29 : decode cX9_item 29 = .ok (.aload_n 0, 1) := by decide +kernel
theorem dX9_item_30 : decode cX9_item 30 = .ok (.getfield 36, 3) := by decide +kernel
theorem dX9_item_33 : decode cX9_item 33 = .ok (.iload_n 1, 1) := by decide +kernel
theorem dX9_item_34 : decode cX9_item 34 = .ok (.iaload, 1) := by decide +kernel
theorem dX9_item_35 : decode cX9_item 35 = .ok (.if_icmp .ge 13, 3) := by decide +kernel
theorem dX9_item_38 : decode cX9_item 38 = .ok (.iload_n 3, 1) := by decide +kernel
theorem dX9_item_39 : decode cX9_item 39 = .ok (.ifCond .lt 9, 3) := by decide +kernel
theorem dX9_item_42 : decode cX9_item 42 = .ok (.iload_n 3, 1) := by decide +kernel
theorem dX9_item_43 : decode cX9_item 43 = .ok (.bipush 8, 2) := by decide +kernel
theorem dX9_item_45 : decode cX9_item 45 = .ok (.if_icmp .le 9, 3) := by decide +kernel
theorem dX9_item_48 : decode cX9_item 48 = .ok (.aload_n 0, 1) := by decide +kernel
theorem dX9_item_49 : decode cX9_item 49 = .ok (.iconst 1, 1) := by decide +kernel
theorem dX9_item_50 : decode cX9_item 50 = .ok (.invokevirtual 57, 3) := by decide +kernel
theorem dX9_item_53 : decode cX9_item 53 = .ok (.ireturn, 1) := by decide +kernel
theorem dX9_item_54 : decode cX9_item 54 = .ok (.aload_n 0, 1) := by decide +kernel
theorem dX9_item_55 : decode cX9_item 55 = .ok (.getfield 45, 3) := by decide +kernel
theorem dX9_item_58 : decode cX9_item 58 = .ok (.bipush 9, 2) := by decide +kernel
theorem dX9_item_60 : decode cX9_item 60 = .ok (.aload_n 0, 1) := by decide +kernel
theorem dX9_item_61 : decode cX9_item 61 = .ok (.getfield 39, 3) := by decide +kernel
theorem dX9_item_64 : decode cX9_item 64 = .ok (.iload_n 1, 1) := by decide +kernel
theorem dX9_item_65 : decode cX9_item 65 = .ok (.iaload, 1) := by decide +kernel
theorem dX9_item_66 : decode cX9_item 66 = .ok (.iload_n 2, 1) := by decide +kernel
theorem dX9_item_67 : decode cX9_item 67 = .ok (.iadd, 1) := by decide +kernel
theorem dX9_item_68 : decode cX9_item 68 = .ok (.imul, 1) := by decide +kernel
theorem dX9_item_69 : decode cX9_item 69 = .ok (.iload_n 3, 1) := by decide +kernel
theorem dX9_item_70 : decode cX9_item 70 = .ok (.iadd, 1) := by decide +kernel
theorem dX9_item_71 : decode cX9_item 71 = .ok (.iaload, 1) := by decide +kernel
theorem dX9_item_72 : decode cX9_item 72 = .ok (.ireturn, 1) := by decide +kernel
theorem dX9_conv_0 : decode cX9_conv 0 = .ok (.aload_n 0, 1) := by decide +kernel
theorem dX9_conv_1 : decode cX9_conv 1 = .ok (.iconst 0, 1) := by decide +kernel
theorem dX9_conv_2 : decode cX9_conv 2 = .ok (.putfield 54, 3) := by decide +kernel
theorem dX9_conv_5 : decode cX9_conv 5 = .ok (.aload_n 0, 1) := by decide +kernel
theorem dX9_conv_6 : decode cX9_conv 6 = .ok (.getfield 191, 3) := by decide +kernel
theorem dX9_conv_9 : decode cX9_conv 9 = .ok (.ifCond .eq 10, 3) := by decide +kernel
theorem dX9_conv_12 : decode cX9_conv 12 = .ok (.aload_n 0, 1) := by decide +kernel
theorem dX9_conv_13 : decode cX9_conv 13 = .ok (.getfield 73, 3) := by decide +kernel
theorem dX9_conv_16 : decode cX9_conv 16 = .ok (.goto 4, 3) := by decide +kernel
theorem dX9_conv_19 : decode cX9_conv 19 = .ok (.dconst 0, 1) := by decide +kernel
theorem dX9_conv_20 : decode cX9_conv 20 = .ok (.dreturn, 1) := by decide +kernel
theorem dX9_most_0 : decode cX9_most 0 = .ok (.aload_n 0, 1) := by decide +kernel
theorem dX9_most_1 : decode cX9_most 1 = .ok (.iconst 0, 1) := by decide +kernel
theorem dX9_most_2 : decode cX9_most 2 = .ok (.putfield 54, 3) := by decide +kernel
theorem dX9_most_5 : decode cX9_most 5 = .ok (.aload_n 0, 1) := by decide +kernel
theorem dX9_most_6 : decode cX9_most 6 = .ok (.getfield 191, 3) := by decide +kernel
theorem dX9_most_9 : decode cX9_most 9 = .ok (.ifCond .eq 19, 3) := by decide +kernel
theorem dX9_most_12 : decode cX9_most 12 = .ok (.aload_n 0, 1) := by decide +kernel
theorem dX9_most_13 : decode cX9_most 13 = .ok (.getfield 89, 3) := by decide +kernel
theorem dX9_most_16 : decode cX9_most 16 = .ok (.ifCond .eq 12, 3) := by decide +kernel
theorem dX9_most_19 : decode cX9_most 19 = .ok (.iload_n 1, 1) := by decide +kernel
theorem dX9_most_20 : decode cX9_most 20 = .ok (.ifCond .lt 8, 3) := by decide +kernel
theorem dX9_most_23 : decode cX9_most 23 = .ok (.iload_n 1, 1) := by decide +kernel
theorem dX9_most_24 : decode cX9_most 24 = .ok (.iconst 3, 1) := by decide +kernel
theorem dX9_most_25 : decode cX9_most 25 = .ok (.if_icmp .le 5, 3) := by decide +kernel
theorem dX9_most_28 : decode cX9_most 28 = .ok (.iconst 0, 1) := by decide +kernel
theorem dX9_most_29 : decode cX9_most 29 = .ok (.ireturn, 1) := by decide +kernel
theorem dX9_most_30 : decode cX9_most 30 = .ok (.aload_n 0, 1) := by decide +kernel
theorem dX9_most_31 : decode cX9_most 31 = .ok (.getfield 45, 3) := by decide +kernel
theorem dX9_most_34 : decode cX9_most 34 = .ok (.iconst 2, 1) := by decide +kernel
theorem dX9_most_35 : decode cX9_most 35 = .ok (.iload_n 1, 1) := by decide +kernel
theorem dX9_most_36 : decode cX9_most 36 = .ok (.iconst 2, 1) := by decide +kernel
theorem dX9_most_37 : decode cX9_most 37 = .ok (.irem, 1) := by decide +kernel
theorem dX9_most_38 : decode cX9_most 38 = .ok (.iadd, 1) := by decide +kernel
theorem dX9_most_39 : decode cX9_most 39 = .ok (.iaload, 1) := by decide +kernel
theorem dX9_most_40 : decode cX9_most 40 = .ok (.istore_n 2, 1) := by decide +kernel
theorem dX9_most_41 : decode cX9_most 41 = .ok (.iconst 0, 1) := by decide +kernel
theorem dX9_most_42 : decode cX9_most 42 = .ok (.istore_n 3, 1) := by decide +kernel
theorem dX9_most_43 : decode cX9_most 43 = .ok (.iload_n 3, 1) := by decide +kernel
theorem dX9_most_44 : decode cX9_most 44 = .ok (.aload_n 0, 1) := by decide +kernel
theorem dX9_most_45 : decode cX9_most 45 = .ok (.getfield 89, 3) := by decide +kernel
theorem dX9_most_48 : decode cX9_most 48 = .ok (.if_icmp .ge 59, 3) := by decide +kernel
theorem dX9_most_51 : decode cX9_most 51 = .ok (.aload_n 0, 1) := by decide +kernel
theorem dX9_most_52 : decode cX9_most 52 = .ok (.getfield 45, 3) := by decide +kernel
theorem dX9_most_55 : decode cX9_most 55 = .ok (.bipush 9, 2) := by decide +kernel
theorem dX9_most_57 : decode cX9_most 57 = .ok (.iload_n 3, 1) := by decide +kernel
theorem dX9_most_58 : decode cX9_most 58 = .ok (.imul, 1) := by decide +kernel
theorem dX9_most_59 : decode cX9_most 59 = .ok (.iconst 2, 1) := by decide +kernel
theorem dX9_most_60 : decode cX9_most 60 = .ok (.iadd, 1) := by decide +kernel
theorem dX9_most_61 : decode cX9_most 61 = .ok (.iload_n 1, 1) := by decide +kernel
theorem dX9_most_62 : decode cX9_most 62 = .ok (.iconst 2, 1) := by decide +kernel
theorem dX9_most_63 : decode cX9_most 63 = .ok (.irem, 1) := by decide +kernel
theorem dX9_most_64 : decode cX9_most 64 = .ok (.iadd, 1) := by decide +kernel
theorem dX9_most_65 : decode cX9_most 65 = .ok (.iaload, 1) := by decide +kernel
theorem dX9_most_66 : decode cX9_most 66 = .ok (.istore 4, 2) := by decide +kernel
theorem dX9_most_68 : decode cX9_most 68 = .ok (.iload_n 1, 1) := by decide +kernel
theorem dX9_most_69 : decode cX9_most 69 = .ok (.iconst 2, 1) := by decide +kernel
theorem dX9_most_70 : decode cX9_most 70 = .ok (.if_icmp .ge 18, 3) := by decide +kernel
theorem dX9_most_73 : decode cX9_most 73 = .ok (.iload 4, 2) := by decide +kernel
theorem dX9_most_75 : decode cX9_most 75 = .ok (.iload_n 2, 1) := by decide +kernel
theorem dX9_most_76 : decode cX9_most 76 = .ok (.if_icmp .le 8, 3) := by decide +kernel
theorem dX9_most_79 : decode cX9_most 79 = .ok (.iload 4, 2) := by decide +kernel
theorem dX9_most_81 : decode cX9_most 81 = .ok (.goto 19, 3) := by decide +kernel
theorem dX9_most_84 : decode cX9_most 84 = .ok (.iload_n 2, 1) := by decide +kernel
theorem dX9_most_85 : decode cX9_most 85 = .ok (.goto 15, 3) := by decide +kernel
theorem dX9_most_88 : decode cX9_most 88 = .ok (.iload 4, 2) := by decide +kernel
theorem dX9_most_90 : decode cX9_most 90 = .ok (.iload_n 2, 1) := by decide +kernel
theorem dX9_most_91 : decode cX9_most 91 = .ok (.if_icmp .ge 8, 3) := by decide +kernel
theorem dX9_most_94 : decode cX9_most 94 = .ok (.iload 4, 2) := by decide +kernel
theorem dX9_most_96 : decode cX9_most 96 = .ok (.goto 4, 3) := by decide +kernel
theorem dX9_most_99 : decode cX9_most 99 = .ok (.iload_n 2, 1) := by decide +kernel
theorem dX9_most_100 : decode cX9_most 100 = .ok (.istore_n 2, 1) := by decide +kernel
theorem dX9_most_101 : decode cX9_most 101 = .ok (.iinc 3 1, 3) := by decide +kernel
theorem dX9_most_104 : decode cX9_most 104 = .ok (.goto (-61), 3) := by decide +kernel
theorem dX9_most_107 : decode cX9_most 107 = .ok (.iload_n 2, 1) := by decide +kernel
theorem dX9_most_108 : decode cX9_most 108 = .ok (.ireturn, 1) := by decide +kernel
theorem dJ9_max_7cf53_0 : decode cJ9_max_7cf53 0 = .ok (.iload_n 0, 1) := by decide +kernel
theorem dJ9_max_7cf53_1 : decode cJ9_max_7cf53 1 = .ok (.iload_n 1, 1) := by decide +kernel
theorem dJ9_max_7cf53_2 : decode cJ9_max_7cf53 2 = .ok (.if_icmp .lt 7, 3) := by decide +kernel
theorem dJ9_max_7cf53_5 : decode cJ9_max_7cf53 5 = .ok (.iload_n 0, 1) := by decide +kernel
theorem dJ9_max_7cf53_6 : decode cJ9_max_7cf53 6 = .ok (.goto 4, 3) := by decide +kernel
theorem dJ9_max_7cf53_9 : decode cJ9_max_7cf53 9 = .ok (.iload_n 1, 1) := by decide +kernel
theorem dJ9_max_7cf53_10 : decode cJ9_max_7cf53 10 = .ok (.ireturn, 1) := by decide +kernel
theorem dJ9_min_7cf53_0 : decode cJ9_min_7cf53 0 = .ok (.iload_n 0, 1) := by decide +kernel
theorem dJ9_min_7cf53_1 : decode cJ9_min_7cf53 1 = .ok (.iload_n 1, 1) := by decide +kernel
theorem dJ9_min_7cf53_2 : decode cJ9_min_7cf53 2 = .ok (.if_icmp .gt 7, 3) := by decide +kernel
theorem dJ9_min_7cf53_5 : decode cJ9_min_7cf53 5 = .ok (.iload_n 0, 1) := by decide +kernel
theorem dJ9_min_7cf53_6 : decode cJ9_min_7cf53 6 = .ok (.goto 4, 3) := by decide +kernel
theorem dJ9_min_7cf53_9 : decode cJ9_min_7cf53 9 = .ok (.iload_n 1, 1) := by decide +kernel
theorem dJ9_min_7cf53_10 : decode cJ9_min_7cf53 10 = .ok (.ireturn, 1) := by decide +kernel
