theorem dX0_init_0 : decode cX0_init 0 = .ok (.aload_n 0, 1) := by decide +kernel
theorem dX0_init_1 : decode cX0_init 1 = .ok (.invokespecial 1, 3) := by decide +kernel
theorem dX0_init_4 : decode cX0_init 4 = .ok (.aload_n 0, 1) := by decide +kernel
theorem dX0_init_5 : decode cX0_init 5 = .ok (.sipush 600, 3) := by decide +kernel
theorem dX0_init_8 : decode cX0_init 8 = .ok (.newarray .int, 2) := by decide +kernel
theorem dX0_init_10 : decode cX0_init 10 = .ok (.putfield 9, 3) := by decide +kernel
theorem dX0_init_13 : decode cX0_init 13 = .ok (.aload_n 0, 1) := by decide +kernel
theorem dX0_init_14 : decode cX0_init 14 = .ok (.iconst 0, 1) := by decide +kernel
theorem dX0_init_15 : decode cX0_init 15 = .ok (.putfield 13, 3) := by decide +kernel
theorem dX0_init_18 : decode cX0_init 18 = .ok (.return_, 1) := by decide +kernel
theorem dX0_count_0 : decode cX0_count 0 = .ok (.aload_n 0, 1) := by decide +kernel
theorem dX0_count_1 : decode cX0_count 1 = .ok (.getfield 13, 3) := by decide +kernel
theorem dX0_count_4 : decode cX0_count 4 = .ok (.ireturn, 1) := by decide +kernel
theorem dX0_append_0 : decode cX0_append 0 = .ok (.iload_n 3, 1) := by decide +kernel
theorem dX0_append_1 : decode cX0_append 1 = .ok (.ifCond .lt 21, 3) := by decide +kernel
theorem dX0_append_4 : decode cX0_append 4 = .ok (.iload_n 3, 1) := by decide +kernel
theorem dX0_append_5 : decode cX0_append 5 = .ok (.bipush 8, 2) := by decide +kernel
theorem dX0_append_7 : decode cX0_append 7 = .ok (.if_icmp .gt 15, 3) := by decide +kernel
theorem dX0_append_10 : decode cX0_append 10 = .ok (.aload_n 0, 1) := by decide +kernel
theorem dX0_append_11 : decode cX0_append 11 = .ok (.getfield 13, 3) := by decide +kernel
theorem dX0_append_14 : decode cX0_append 14 = .ok (.iload_n 3, 1) := by decide +kernel
theorem dX0_append_15 : decode cX0_append 15 = .ok (.iadd, 1) := by decide +kernel
theorem dX0_append_16 : decode cX0_append 16 = .ok (.sipush 600, 3) := by decide +kernel
theorem dX0_append_19 : decode cX0_append 19 = .ok (.if_icmp .le 5, 3) := by decide +kernel
theorem dX0_append_22 : decode cX0_append 22 = .ok (.iconst 0, 1) := by decide +kernel
theorem dX0_append_23 : decode cX0_append 23 = .ok (.ireturn, 1) := by decide +kernel
theorem dX0_append_24 : decode cX0_append 24 = .ok (.iconst 0, 1) := by decide +kernel
theorem dX0_append_25 : decode cX0_append 25 = .ok (.istore 4, 2) := by decide +kernel
theorem dX0_append_27 : decode cX0_append 27 = .ok (.iload 4, 2) := by decide +kernel
theorem dX0_append_29 : decode cX0_append 29 = .ok (.iload_n 3, 1) := by decide +kernel
theorem dX0_append_30 : decode cX0_append 30 = .ok (.if_icmp .ge 33, 3) := by decide +kernel
theorem dX0_append_33 : decode cX0_append 33 = .ok (.aload_n 0, 1) := by decide +kernel
theorem dX0_append_34 : decode cX0_append 34 = .ok (.getfield 9, 3) := by decide +kernel
theorem dX0_append_37 : decode cX0_append 37 = .ok (.aload_n 0, 1) := by decide +kernel
theorem dX0_append_38 : decode cX0_append 38 = .ok (.getfield 13, 3) := by decide +kernel
theorem dX0_append_41 : decode cX0_append 41 = .ok (.iload 4, 2) := by decide +kernel
theorem dX0_append_43 : decode cX0_append 43 = .ok (.iadd, 1) := by decide +kernel
theorem dX0_append_44 : decode cX0_append 44 = .ok (.lload_n 1, 1) := by decide +kernel
theorem dX0_append_45 : decode cX0_append 45 = .ok (.bipush 8, 2) := by decide +kernel
theorem dX0_append_47 : decode cX0_append 47 = .ok (.iload 4, 2) := by decide +kernel
theorem dX0_append_49 : decode cX0_append 49 = .ok (.imul, 1) := by decide +kernel
theorem dX0_append_50 : decode cX0_append 50 = .ok (.lushr, 1) := by decide +kernel
theorem dX0_append_51 : decode cX0_append 51 = .ok (.l2i, 1) := by decide +kernel
theorem dX0_append_52 : decode cX0_append 52 = .ok (.sipush 255, 3) := by decide +kernel
theorem dX0_append_55 : decode cX0_append 55 = .ok (.iand, 1) := by decide +kernel
theorem dX0_append_56 : decode cX0_append 56 = .ok (.iastore, 1) := by decide +kernel
theorem dX0_append_57 : decode cX0_append 57 = .ok (.iinc 4 1, 3) := by decide +kernel
theorem dX0_append_60 : decode cX0_append 60 = .ok (.goto (-33), 3) := by decide +kernel
theorem dX0_append_63 : decode cX0_append 63 = .ok (.aload_n 0, 1) := by decide +kernel
theorem dX0_append_64 : decode cX0_append 64 = .ok (.dup, 1) := by decide +kernel
theorem dX0_append_65 : decode cX0_append 65 = .ok (.getfield 13, 3) := by decide +kernel
theorem dX0_append_68 : decode cX0_append 68 = .ok (.iload_n 3, 1) := by decide +kernel
theorem dX0_append_69 : decode cX0_append 69 = .ok (.iadd, 1) := by decide +kernel
theorem dX0_append_70 : decode cX0_append 70 = .ok (.putfield 13, 3) := by decide +kernel
theorem dX0_append_73 : decode cX0_append 73 = .ok (.iconst 1, 1) := by decide +kernel
theorem dX0_append_74 : decode cX0_append 74 = .ok (.ireturn, 1) := by decide +kernel
theorem dX0_drop_0 : decode cX0_drop 0 = .ok (.iload_n 1, 1) := by decide +kernel
theorem dX0_drop_1 : decode cX0_drop 1 = .ok (.ifCond .lt 11, 3) := by decide +kernel
theorem dX0_drop_4 : decode cX0_drop 4 = .ok (.iload_n 1, 1) := by decide +kernel
theorem dX0_drop_5 : decode cX0_drop 5 = .ok (.aload_n 0, 1) := by decide +kernel
theorem dX0_drop_6 : decode cX0_drop 6 = .ok (.getfield 13, 3) := by decide +kernel
theorem dX0_drop_9 : decode cX0_drop 9 = .ok (.if_icmp .le 5, 3) := by decide +kernel
theorem dX0_drop_12 : decode cX0_drop 12 = .ok (.iconst 0, 1) := by decide +kernel
theorem dX0_drop_13 : decode cX0_drop 13 = .ok (.ireturn, 1) := by decide +kernel
theorem dX0_drop_14 : decode cX0_drop 14 = .ok (.aload_n 0, 1) := by decide +kernel
theorem dX0_drop_15 : decode cX0_drop 15 = .ok (.dup, 1) := by decide +kernel
theorem dX0_drop_16 : decode cX0_drop 16 = .ok (.getfield 13, 3) := by decide +kernel
theorem dX0_drop_19 : decode cX0_drop 19 = .ok (.iload_n 1, 1) := by decide +kernel
theorem dX0_drop_20 : decode cX0_drop 20 = .ok (.isub, 1) := by decide +kernel
theorem dX0_drop_21 : decode cX0_drop 21 = .ok (.putfield 13, 3) := by decide +kernel
theorem dX0_drop_24 : decode cX0_drop 24 = .ok (.iconst 1, 1) := by decide +kernel
theorem dX0_drop_25 : decode cX0_drop 25 = .ok (.ireturn, 1) := by decide +kernel
theorem dX0_at_0 : decode cX0_at 0 = .ok (.iload_n 1, 1) := by decide +kernel
theorem dX0_at_1 : decode cX0_at 1 = .ok (.ifCond .lt 11, 3) := by decide +kernel
theorem dX0_at_4 : decode cX0_at 4 = .ok (.iload_n 1, 1) := by decide +kernel
theorem dX0_at_5 : decode cX0_at 5 = .ok (.aload_n 0, 1) := by decide +kernel
theorem dX0_at_6 : decode cX0_at 6 = .ok (.getfield 13, 3) := by decide +kernel
theorem dX0_at_9 : decode cX0_at 9 = .ok (.if_icmp .lt 7, 3) := by decide +kernel
theorem dX0_at_12 : decode cX0_at 12 = .ok (.iconst 0, 1) := by decide +kernel
theorem dX0_at_13 : decode cX0_at 13 = .ok (.goto 9, 3) := by decide +kernel
theorem dX0_at_16 : decode cX0_at 16 = .ok (.aload_n 0, 1) := by decide +kernel
theorem dX0_at_17 : decode cX0_at 17 = .ok (.getfield 9, 3) := by decide +kernel
theorem dX0_at_20 : decode cX0_at 20 = .ok (.iload_n 1, 1) := by decide +kernel
theorem dX0_at_21 : decode cX0_at 21 = .ok (.iaload, 1) := by decide +kernel
theorem dX0_at_22 : decode cX0_at 22 = .ok (.ireturn, 1) := by decide +kernel
set_option maxRecDepth 20000 in
theorem ggX0_number_X0_at : GoodIn wsX0_number wsX0_at := goodIn_r _ [5, 6, 7, 8, 9] (by decide +kernel) (by decide +kernel)
set_option maxRecDepth 20000 in
theorem gX0_number_X0_at : GoodIn wsX0_number (wsV RX0 17 RX0 yX0_at wsX0_at) := goodIn_app (goodIn_of _ (by decide +kernel)) ggX0_number_X0_at
theorem dX0_number_0 : decode cX0_number 0 = .ok (.iconst 0, 1) := by decide +kernel
theorem dX0_number_1 : decode cX0_number 1 = .ok (.istore_n 3, 1) := by decide +kernel
theorem dX0_number_2 : decode cX0_number 2 = .ok (.iconst 0, 1) := by decide +kernel
theorem dX0_number_3 : decode cX0_number 3 = .ok (.istore 4, 2) := by decide +kernel
theorem dX0_number_5 : decode cX0_number 5 = .ok (.iload 4, 2) := by decide +kernel
theorem dX0_number_7 : decode cX0_number 7 = .ok (.iload_n 2, 1) := by decide +kernel
theorem dX0_number_8 : decode cX0_number 8 = .ok (.if_icmp .ge 23, 3) := by decide +kernel
theorem dX0_number_11 : decode cX0_number 11 = .ok (.iload_n 3, 1) := by decide +kernel
theorem dX0_number_12 : decode cX0_number 12 = .ok (.bipush 8, 2) := by decide +kernel
theorem dX0_number_14 : decode cX0_number 14 = .ok (.ishl, 1) := by decide +kernel
theorem dX0_number_15 : decode cX0_number 15 = .ok (.aload_n 0, 1) := by decide +kernel
theorem dX0_number_16 : decode cX0_number 16 = .ok (.iload_n 1, 1) := by decide +kernel
theorem dX0_number_17 : decode cX0_number 17 = .ok (.iload 4, 2) := by decide +kernel
theorem dX0_number_19 : decode cX0_number 19 = .ok (.iadd, 1) := by decide +kernel
theorem dX0_number_20 : decode cX0_number 20 = .ok (.invokevirtual 17, 3) := by decide +kernel
theorem dX0_number_23 : decode cX0_number 23 = .ok (.ior, 1) := by decide +kernel
theorem dX0_number_24 : decode cX0_number 24 = .ok (.istore_n 3, 1) := by decide +kernel
theorem dX0_number_25 : decode cX0_number 25 = .ok (.iinc 4 1, 3) := by decide +kernel
theorem dX0_number_28 : decode cX0_number 28 = .ok (.goto (-23), 3) := by decide +kernel
theorem dX0_number_31 : decode cX0_number 31 = .ok (.iload_n 3, 1) := by decide +kernel
theorem dX0_number_32 : decode cX0_number 32 = .ok (.ireturn, 1) := by decide +kernel
set_option maxRecDepth 20000 in
theorem ggX0_signedNumber_X0_number : GoodIn wsX0_signedNumber wsX0_number := goodIn_r _ [5, 6, 7, 8, 4, 9, 10, 11, 12, 13] (by decide +kernel) (by decide +kernel)
set_option maxRecDepth 20000 in
theorem gX0_signedNumber_X0_number : GoodIn wsX0_signedNumber (wsV RX0 21 RX0 yX0_number wsX0_number) := goodIn_app (goodIn_of _ (by decide +kernel)) ggX0_signedNumber_X0_number
theorem dX0_signedNumber_0 : decode cX0_signedNumber 0 = .ok (.bipush 32, 2) := by decide +kernel
theorem dX0_signedNumber_2 : decode cX0_signedNumber 2 = .ok (.bipush 8, 2) := by decide +kernel
theorem dX0_signedNumber_4 : decode cX0_signedNumber 4 = .ok (.iload_n 2, 1) := by decide +kernel
theorem dX0_signedNumber_5 : decode cX0_signedNumber 5 = .ok (.imul, 1) := by decide +kernel
theorem dX0_signedNumber_6 : decode cX0_signedNumber 6 = .ok (.isub, 1) := by decide +kernel
theorem dX0_signedNumber_7 : decode cX0_signedNumber 7 = .ok (.istore_n 3, 1) := by decide +kernel
theorem dX0_signedNumber_8 : decode cX0_signedNumber 8 = .ok (.aload_n 0, 1) := by decide +kernel
theorem dX0_signedNumber_9 : decode cX0_signedNumber 9 = .ok (.iload_n 1, 1) := by decide +kernel
theorem dX0_signedNumber_10 : decode cX0_signedNumber 10 = .ok (.iload_n 2, 1) := by decide +kernel
theorem dX0_signedNumber_11 : decode cX0_signedNumber 11 = .ok (.invokevirtual 21, 3) := by decide +kernel
theorem dX0_signedNumber_14 : decode cX0_signedNumber 14 = .ok (.iload_n 3, 1) := by decide +kernel
theorem dX0_signedNumber_15 : decode cX0_signedNumber 15 = .ok (.ishl, 1) := by decide +kernel
theorem dX0_signedNumber_16 : decode cX0_signedNumber 16 = .ok (.iload_n 3, 1) := by decide +kernel
theorem dX0_signedNumber_17 : decode cX0_signedNumber 17 = .ok (.ishr, 1) := by decide +kernel
theorem dX0_signedNumber_18 : decode cX0_signedNumber 18 = .ok (.ireturn, 1) := by decide +kernel
set_option maxRecDepth 20000 in
theorem ggX0_commandLength_X0_at : GoodIn wsX0_commandLength wsX0_at := goodIn_r _ [6, 1, 7, 13, 14] (by decide +kernel) (by decide +kernel)
set_option maxRecDepth 20000 in
theorem gX0_commandLength_X0_at : GoodIn wsX0_commandLength (wsV RX0 17 RX0 yX0_at wsX0_at) := goodIn_app (goodIn_of _ (by decide +kernel)) ggX0_commandLength_X0_at
set_option maxRecDepth 20000 in
theorem ggX0_commandLength_X2_bytesBehind : GoodIn wsX0_commandLength wsX2_bytesBehind := goodIn_r _ [11, 12] (by decide +kernel) (by decide +kernel)
set_option maxRecDepth 20000 in
theorem gX0_commandLength_X2_bytesBehind : GoodIn wsX0_commandLength (va_wsS RX0 27 yX2_bytesBehind wsX2_bytesBehind) := goodIn_app (goodIn_of _ (by decide +kernel)) ggX0_commandLength_X2_bytesBehind
theorem dX0_commandLength_0 : decode cX0_commandLength 0 = .ok (.aload_n 0, 1) := by decide +kernel
theorem dX0_commandLength_1 : decode cX0_commandLength 1 = .ok (.iload_n 1, 1) := by decide +kernel
theorem dX0_commandLength_2 : decode cX0_commandLength 2 = .ok (.invokevirtual 17, 3) := by decide +kernel
theorem dX0_commandLength_5 : decode cX0_commandLength 5 = .ok (.sipush 169, 3) := by decide +kernel
theorem dX0_commandLength_8 : decode cX0_commandLength 8 = .ok (.if_icmp .le 5, 3) := by decide +kernel
theorem dX0_commandLength_11 : decode cX0_commandLength 11 = .ok (.iconst 0, 1) := by decide +kernel
theorem dX0_commandLength_12 : decode cX0_commandLength 12 = .ok (.ireturn, 1) := by decide +kernel
theorem dX0_commandLength_13 : decode cX0_commandLength 13 = .ok (.iconst 1, 1) := by decide +kernel
theorem dX0_commandLength_14 : decode cX0_commandLength 14 = .ok (.aload_n 0, 1) := by decide +kernel
theorem dX0_commandLength_15 : decode cX0_commandLength 15 = .ok (.iload_n 1, 1) := by decide +kernel
theorem dX0_commandLength_16 : decode cX0_commandLength 16 = .ok (.invokevirtual 17, 3) := by decide +kernel
theorem dX0_commandLength_19 : decode cX0_commandLength 19 = .ok (.invokestatic 27, 3) := by decide +kernel
theorem dX0_commandLength_22 : decode cX0_commandLength 22 = .ok (.iadd, 1) := by decide +kernel
theorem dX0_commandLength_23 : decode cX0_commandLength 23 = .ok (.istore_n 2, 1) := by decide +kernel
theorem dX0_commandLength_24 : decode cX0_commandLength 24 = .ok (.iload_n 1, 1) := by decide +kernel
theorem dX0_commandLength_25 : decode cX0_commandLength 25 = .ok (.iload_n 2, 1) := by decide +kernel
theorem dX0_commandLength_26 : decode cX0_commandLength 26 = .ok (.iadd, 1) := by decide +kernel
theorem dX0_commandLength_27 : decode cX0_commandLength 27 = .ok (.aload_n 0, 1) := by decide +kernel
theorem dX0_commandLength_28 : decode cX0_commandLength 28 = .ok (.getfield 13, 3) := by decide +kernel
theorem dX0_commandLength_31 : decode cX0_commandLength 31 = .ok (.if_icmp .gt 7, 3) := by decide +kernel
theorem dX0_commandLength_34 : decode cX0_commandLength 34 = .ok (.iload_n 2, 1) := by decide +kernel
theorem dX0_commandLength_35 : decode cX0_commandLength 35 = .ok (.goto 4, 3) := by decide +kernel
theorem dX0_commandLength_38 : decode cX0_commandLength 38 = .ok (.iconst 0, 1) := by decide +kernel
theorem dX0_commandLength_39 : decode cX0_commandLength 39 = .ok (.ireturn, 1) := by decide +kernel
set_option maxRecDepth 20000 in
theorem ggX0_endsWell_X0_at : GoodIn wsX0_endsWell wsX0_at := goodIn_r _ [6, 1, 7, 8, 9] (by decide +kernel) (by decide +kernel)
set_option maxRecDepth 20000 in
theorem gX0_endsWell_X0_at : GoodIn wsX0_endsWell (wsV RX0 17 RX0 yX0_at wsX0_at) := goodIn_app (goodIn_of _ (by decide +kernel)) ggX0_endsWell_X0_at
theorem dX0_endsWell_0 : decode cX0_endsWell 0 = .ok (.aload_n 0, 1) := by decide +kernel
theorem dX0_endsWell_1 : decode cX0_endsWell 1 = .ok (.getfield 13, 3) := by decide +kernel
theorem dX0_endsWell_4 : decode cX0_endsWell 4 = .ok (.iload_n 1, 1) := by decide +kernel
theorem dX0_endsWell_5 : decode cX0_endsWell 5 = .ok (.isub, 1) := by decide +kernel
theorem dX0_endsWell_6 : decode cX0_endsWell 6 = .ok (.iconst 4, 1) := by decide +kernel
theorem dX0_endsWell_7 : decode cX0_endsWell 7 = .ok (.if_icmp .lt 12, 3) := by decide +kernel
theorem dX0_endsWell_10 : decode cX0_endsWell 10 = .ok (.aload_n 0, 1) := by decide +kernel
theorem dX0_endsWell_11 : decode cX0_endsWell 11 = .ok (.getfield 13, 3) := by decide +kernel
theorem dX0_endsWell_14 : decode cX0_endsWell 14 = .ok (.iconst 4, 1) := by decide +kernel
theorem dX0_endsWell_15 : decode cX0_endsWell 15 = .ok (.irem, 1) := by decide +kernel
theorem dX0_endsWell_16 : decode cX0_endsWell 16 = .ok (.ifCond .eq 5, 3) := by decide +kernel
theorem dX0_endsWell_19 : decode cX0_endsWell 19 = .ok (.iconst 0, 1) := by decide +kernel
theorem dX0_endsWell_20 : decode cX0_endsWell 20 = .ok (.ireturn, 1) := by decide +kernel
theorem dX0_endsWell_21 : decode cX0_endsWell 21 = .ok (.iload_n 1, 1) := by decide +kernel
theorem dX0_endsWell_22 : decode cX0_endsWell 22 = .ok (.istore_n 2, 1) := by decide +kernel
theorem dX0_endsWell_23 : decode cX0_endsWell 23 = .ok (.iload_n 2, 1) := by decide +kernel
theorem dX0_endsWell_24 : decode cX0_endsWell 24 = .ok (.aload_n 0, 1) := by decide +kernel
theorem dX0_endsWell_25 : decode cX0_endsWell 25 = .ok (.getfield 13, 3) := by decide +kernel
theorem dX0_endsWell_28 : decode cX0_endsWell 28 = .ok (.if_icmp .ge 22, 3) := by decide +kernel
theorem dX0_endsWell_31 : decode cX0_endsWell 31 = .ok (.aload_n 0, 1) := by decide +kernel
theorem dX0_endsWell_32 : decode cX0_endsWell 32 = .ok (.iload_n 2, 1) := by decide +kernel
theorem dX0_endsWell_33 : decode cX0_endsWell 33 = .ok (.invokevirtual 17, 3) := by decide +kernel
theorem dX0_endsWell_36 : decode cX0_endsWell 36 = .ok (.sipush 223, 3) := by decide +kernel
theorem dX0_endsWell_39 : decode cX0_endsWell 39 = .ok (.if_icmp .eq 5, 3) := by decide +kernel
theorem dX0_endsWell_42 : decode cX0_endsWell 42 = .ok (.iconst 0, 1) := by decide +kernel
theorem dX0_endsWell_43 : decode cX0_endsWell 43 = .ok (.ireturn, 1) := by decide +kernel
theorem dX0_endsWell_44 : decode cX0_endsWell 44 = .ok (.iinc 2 1, 3) := by decide +kernel
theorem dX0_endsWell_47 : decode cX0_endsWell 47 = .ok (.goto (-24), 3) := by decide +kernel
theorem dX0_endsWell_50 : decode cX0_endsWell 50 = .ok (.iconst 1, 1) := by decide +kernel
theorem dX0_endsWell_51 : decode cX0_endsWell 51 = .ok (.ireturn, 1) := by decide +kernel
theorem dX1_init_0 : decode cX1_init 0 = .ok (.aload_n 0, 1) := by decide +kernel
theorem dX1_init_1 : decode cX1_init 1 = .ok (.invokespecial 1, 3) := by decide +kernel
theorem dX1_init_4 : decode cX1_init 4 = .ok (.aload_n 0, 1) := by decide +kernel
theorem dX1_init_5 : decode cX1_init 5 = .ok (.bipush 8, 2) := by decide +kernel
theorem dX1_init_7 : decode cX1_init 7 = .ok (.newarray .int, 2) := by decide +kernel
theorem dX1_init_9 : decode cX1_init 9 = .ok (.putfield 9, 3) := by decide +kernel
theorem dX1_init_12 : decode cX1_init 12 = .ok (.aload_n 0, 1) := by decide +kernel
theorem dX1_init_13 : decode cX1_init 13 = .ok (.bipush 8, 2) := by decide +kernel
theorem dX1_init_15 : decode cX1_init 15 = .ok (.newarray .int, 2) := by decide +kernel
theorem dX1_init_17 : decode cX1_init 17 = .ok (.putfield 13, 3) := by decide +kernel
theorem dX1_init_20 : decode cX1_init 20 = .ok (.aload_n 0, 1) := by decide +kernel
theorem dX1_init_21 : decode cX1_init 21 = .ok (.bipush 8, 2) := by decide +kernel
theorem dX1_init_23 : decode cX1_init 23 = .ok (.newarray .int, 2) := by decide +kernel
theorem dX1_init_25 : decode cX1_init 25 = .ok (.putfield 16, 3) := by decide +kernel
theorem dX1_init_28 : decode cX1_init 28 = .ok (.return_, 1) := by decide +kernel
theorem dX1_clear_0 : decode cX1_clear 0 = .ok (.iconst 0, 1) := by decide +kernel
theorem dX1_clear_1 : decode cX1_clear 1 = .ok (.istore_n 1, 1) := by decide +kernel
theorem dX1_clear_2 : decode cX1_clear 2 = .ok (.iload_n 1, 1) := by decide +kernel
theorem dX1_clear_3 : decode cX1_clear 3 = .ok (.bipush 8, 2) := by decide +kernel
theorem dX1_clear_5 : decode cX1_clear 5 = .ok (.if_icmp .ge 16, 3) := by decide +kernel
theorem dX1_clear_8 : decode cX1_clear 8 = .ok (.aload_n 0, 1) := by decide +kernel
theorem dX1_clear_9 : decode cX1_clear 9 = .ok (.getfield 9, 3) := by decide +kernel
theorem dX1_clear_12 : decode cX1_clear 12 = .ok (.iload_n 1, 1) := by decide +kernel
theorem dX1_clear_13 : decode cX1_clear 13 = .ok (.iconst 0, 1) := by decide +kernel
theorem dX1_clear_14 : decode cX1_clear 14 = .ok (.iastore, 1) := by decide +kernel
theorem dX1_clear_15 : decode cX1_clear 15 = .ok (.iinc 1 1, 3) := by decide +kernel
theorem dX1_clear_18 : decode cX1_clear 18 = .ok (.goto (-16), 3) := by decide +kernel
theorem dX1_clear_21 : decode cX1_clear 21 = .ok (.return_, 1) := by decide +kernel
theorem dX1_knows_0 : decode cX1_knows 0 = .ok (.iload_n 1, 1) := by decide +kernel
theorem dX1_knows_1 : decode cX1_knows 1 = .ok (.ifCond .lt 22, 3) := by decide +kernel
theorem dX1_knows_4 : decode cX1_knows 4 = .ok (.iload_n 1, 1) := by decide +kernel
theorem dX1_knows_5 : decode cX1_knows 5 = .ok (.bipush 8, 2) := by decide +kernel
theorem dX1_knows_7 : decode cX1_knows 7 = .ok (.if_icmp .ge 16, 3) := by decide +kernel
theorem dX1_knows_10 : decode cX1_knows 10 = .ok (.aload_n 0, 1) := by decide +kernel
theorem dX1_knows_11 : decode cX1_knows 11 = .ok (.getfield 9, 3) := by decide +kernel
theorem dX1_knows_14 : decode cX1_knows 14 = .ok (.iload_n 1, 1) := by decide +kernel
theorem dX1_knows_15 : decode cX1_knows 15 = .ok (.iaload, 1) := by decide +kernel
theorem dX1_knows_16 : decode cX1_knows 16 = .ok (.ifCond .eq 7, 3) := by decide +kernel
theorem dX1_knows_19 : decode cX1_knows 19 = .ok (.iconst 1, 1) := by decide +kernel
theorem dX1_knows_20 : decode cX1_knows 20 = .ok (.goto 4, 3) := by decide +kernel
theorem dX1_knows_23 : decode cX1_knows 23 = .ok (.iconst 0, 1) := by decide +kernel
theorem dX1_knows_24 : decode cX1_knows 24 = .ok (.ireturn, 1) := by decide +kernel
set_option maxRecDepth 20000 in
theorem ggX1_scaleOf_X1_knows : GoodIn wsX1_scaleOf wsX1_knows := goodIn_r _ [6, 7, 8, 9, 10] (by decide +kernel) (by decide +kernel)
set_option maxRecDepth 20000 in
theorem gX1_scaleOf_X1_knows : GoodIn wsX1_scaleOf (wsV RX1 19 RX1 yX1_knows wsX1_knows) := goodIn_app (goodIn_of _ (by decide +kernel)) ggX1_scaleOf_X1_knows
theorem dX1_scaleOf_0 : decode cX1_scaleOf 0 = .ok (.aload_n 0, 1) := by decide +kernel
theorem dX1_scaleOf_1 : decode cX1_scaleOf 1 = .ok (.iload_n 1, 1) := by decide +kernel
theorem dX1_scaleOf_2 : decode cX1_scaleOf 2 = .ok (.invokevirtual 19, 3) := by decide +kernel
theorem dX1_scaleOf_5 : decode cX1_scaleOf 5 = .ok (.ifCond .eq 12, 3) := by decide +kernel
theorem dX1_scaleOf_8 : decode cX1_scaleOf 8 = .ok (.aload_n 0, 1) := by decide +kernel
theorem dX1_scaleOf_9 : decode cX1_scaleOf 9 = .ok (.getfield 16, 3) := by decide +kernel
theorem dX1_scaleOf_12 : decode cX1_scaleOf 12 = .ok (.iload_n 1, 1) := by decide +kernel
theorem dX1_scaleOf_13 : decode cX1_scaleOf 13 = .ok (.iaload, 1) := by decide +kernel
theorem dX1_scaleOf_14 : decode cX1_scaleOf 14 = .ok (.goto 4, 3) := by decide +kernel
theorem dX1_scaleOf_17 : decode cX1_scaleOf 17 = .ok (.iconst 0, 1) := by decide +kernel
theorem dX1_scaleOf_18 : decode cX1_scaleOf 18 = .ok (.ireturn, 1) := by decide +kernel
theorem dX1_defineAhead_0 : decode cX1_defineAhead 0 = .ok (.iload_n 1, 1) := by decide +kernel
theorem dX1_defineAhead_1 : decode cX1_defineAhead 1 = .ok (.ifCond .lt 18, 3) := by decide +kernel
theorem dX1_defineAhead_4 : decode cX1_defineAhead 4 = .ok (.iload_n 1, 1) := by decide +kernel
theorem dX1_defineAhead_5 : decode cX1_defineAhead 5 = .ok (.bipush 8, 2) := by decide +kernel
theorem dX1_defineAhead_7 : decode cX1_defineAhead 7 = .ok (.if_icmp .ge 12, 3) := by decide +kernel
theorem dX1_defineAhead_10 : decode cX1_defineAhead 10 = .ok (.aload_n 0, 1) := by decide +kernel
theorem dX1_defineAhead_11 : decode cX1_defineAhead 11 = .ok (.getfield 9, 3) := by decide +kernel
theorem dX1_defineAhead_14 : decode cX1_defineAhead 14 = .ok (.iload_n 1, 1) := by decide +kernel
theorem dX1_defineAhead_15 : decode cX1_defineAhead 15 = .ok (.iaload, 1) := by decide +kernel
theorem dX1_defineAhead_16 : decode cX1_defineAhead 16 = .ok (.ifCond .eq 5, 3) := by decide +kernel
theorem dX1_defineAhead_19 : decode cX1_defineAhead 19 = .ok (.iconst 0, 1) := by decide +kernel
theorem dX1_defineAhead_20 : decode cX1_defineAhead 20 = .ok (.ireturn, 1) := by decide +kernel
theorem dX1_defineAhead_21 : decode cX1_defineAhead 21 = .ok (.aload_n 0, 1) := by decide +kernel
theorem dX1_defineAhead_22 : decode cX1_defineAhead 22 = .ok (.getfield 9, 3) := by decide +kernel
theorem dX1_defineAhead_25 : decode cX1_defineAhead 25 = .ok (.iload_n 1, 1) := by decide +kernel
theorem dX1_defineAhead_26 : decode cX1_defineAhead 26 = .ok (.iconst 1, 1) := by decide +kernel
theorem dX1_defineAhead_27 : decode cX1_defineAhead 27 = .ok (.iastore, 1) := by decide +kernel
theorem dX1_defineAhead_28 : decode cX1_defineAhead 28 = .ok (.aload_n 0, 1) := by decide +kernel
theorem dX1_defineAhead_29 : decode cX1_defineAhead 29 = .ok (.getfield 13, 3) := by decide +kernel
theorem dX1_defineAhead_32 : decode cX1_defineAhead 32 = .ok (.iload_n 1, 1) := by decide +kernel
theorem dX1_defineAhead_33 : decode cX1_defineAhead 33 = .ok (.iload_n 2, 1) := by decide +kernel
theorem dX1_defineAhead_34 : decode cX1_defineAhead 34 = .ok (.iastore, 1) := by decide +kernel
theorem dX1_defineAhead_35 : decode cX1_defineAhead 35 = .ok (.aload_n 0, 1) := by decide +kernel
theorem dX1_defineAhead_36 : decode cX1_defineAhead 36 = .ok (.getfield 16, 3) := by decide +kernel
theorem dX1_defineAhead_39 : decode cX1_defineAhead 39 = .ok (.iload_n 1, 1) := by decide +kernel
theorem dX1_defineAhead_40 : decode cX1_defineAhead 40 = .ok (.iload_n 3, 1) := by decide +kernel
theorem dX1_defineAhead_41 : decode cX1_defineAhead 41 = .ok (.iastore, 1) := by decide +kernel
theorem dX1_defineAhead_42 : decode cX1_defineAhead 42 = .ok (.iconst 1, 1) := by decide +kernel
theorem dX1_defineAhead_43 : decode cX1_defineAhead 43 = .ok (.ireturn, 1) := by decide +kernel
theorem dX1_defineBehind_0 : decode cX1_defineBehind 0 = .ok (.iload_n 1, 1) := by decide +kernel
theorem dX1_defineBehind_1 : decode cX1_defineBehind 1 = .ok (.ifCond .lt 19, 3) := by decide +kernel
theorem dX1_defineBehind_4 : decode cX1_defineBehind 4 = .ok (.iload_n 1, 1) := by decide +kernel
theorem dX1_defineBehind_5 : decode cX1_defineBehind 5 = .ok (.bipush 8, 2) := by decide +kernel
theorem dX1_defineBehind_7 : decode cX1_defineBehind 7 = .ok (.if_icmp .ge 13, 3) := by decide +kernel
theorem dX1_defineBehind_10 : decode cX1_defineBehind 10 = .ok (.aload_n 0, 1) := by decide +kernel
theorem dX1_defineBehind_11 : decode cX1_defineBehind 11 = .ok (.getfield 9, 3) := by decide +kernel
theorem dX1_defineBehind_14 : decode cX1_defineBehind 14 = .ok (.iload_n 1, 1) := by decide +kernel
theorem dX1_defineBehind_15 : decode cX1_defineBehind 15 = .ok (.iaload, 1) := by decide +kernel
theorem dX1_defineBehind_16 : decode cX1_defineBehind 16 = .ok (.iconst 1, 1) := by decide +kernel
theorem dX1_defineBehind_17 : decode cX1_defineBehind 17 = .ok (.if_icmp .eq 5, 3) := by decide +kernel
theorem dX1_defineBehind_20 : decode cX1_defineBehind 20 = .ok (.iconst 0, 1) := by decide +kernel
theorem dX1_defineBehind_21 : decode cX1_defineBehind 21 = .ok (.ireturn, 1) := by decide +kernel
theorem dX1_defineBehind_22 : decode cX1_defineBehind 22 = .ok (.aload_n 0, 1) := by decide +kernel
theorem dX1_defineBehind_23 : decode cX1_defineBehind 23 = .ok (.getfield 13, 3) := by decide +kernel
theorem dX1_defineBehind_26 : decode cX1_defineBehind 26 = .ok (.iload_n 1, 1) := by decide +kernel
theorem dX1_defineBehind_27 : decode cX1_defineBehind 27 = .ok (.iaload, 1) := by decide +kernel
theorem dX1_defineBehind_28 : decode cX1_defineBehind 28 = .ok (.iload_n 2, 1) := by decide +kernel
theorem dX1_defineBehind_29 : decode cX1_defineBehind 29 = .ok (.if_icmp .ne 13, 3) := by decide +kernel
theorem dX1_defineBehind_32 : decode cX1_defineBehind 32 = .ok (.aload_n 0, 1) := by decide +kernel
theorem dX1_defineBehind_33 : decode cX1_defineBehind 33 = .ok (.getfield 16, 3) := by decide +kernel
theorem dX1_defineBehind_36 : decode cX1_defineBehind 36 = .ok (.iload_n 1, 1) := by decide +kernel
theorem dX1_defineBehind_37 : decode cX1_defineBehind 37 = .ok (.iaload, 1) := by decide +kernel
theorem dX1_defineBehind_38 : decode cX1_defineBehind 38 = .ok (.iload_n 3, 1) := by decide +kernel
theorem dX1_defineBehind_39 : decode cX1_defineBehind 39 = .ok (.if_icmp .eq 5, 3) := by decide +kernel
theorem dX1_defineBehind_42 : decode cX1_defineBehind 42 = .ok (.iconst 0, 1) := by decide +kernel
theorem dX1_defineBehind_43 : decode cX1_defineBehind 43 = .ok (.ireturn, 1) := by decide +kernel
theorem dX1_defineBehind_44 : decode cX1_defineBehind 44 = .ok (.aload_n 0, 1) := by decide +kernel
theorem dX1_defineBehind_45 : decode cX1_defineBehind 45 = .ok (.getfield 9, 3) := by decide +kernel
theorem dX1_defineBehind_48 : decode cX1_defineBehind 48 = .ok (.iload_n 1, 1) := by decide +kernel
theorem dX1_defineBehind_49 : decode cX1_defineBehind 49 = .ok (.iconst 2, 1) := by decide +kernel
theorem dX1_defineBehind_50 : decode cX1_defineBehind 50 = .ok (.iastore, 1) := by decide +kernel
theorem dX1_defineBehind_51 : decode cX1_defineBehind 51 = .ok (.iconst 1, 1) := by decide +kernel
theorem dX1_defineBehind_52 : decode cX1_defineBehind 52 = .ok (.ireturn, 1) := by decide +kernel
theorem dX1_allAreBehind_0 : decode cX1_allAreBehind 0 = .ok (.iconst 0, 1) := by decide +kernel
theorem dX1_allAreBehind_1 : decode cX1_allAreBehind 1 = .ok (.istore_n 1, 1) := by decide +kernel
theorem dX1_allAreBehind_2 : decode cX1_allAreBehind 2 = .ok (.iload_n 1, 1) := by decide +kernel
theorem dX1_allAreBehind_3 : decode cX1_allAreBehind 3 = .ok (.bipush 8, 2) := by decide +kernel
theorem dX1_allAreBehind_5 : decode cX1_allAreBehind 5 = .ok (.if_icmp .ge 21, 3) := by decide +kernel
theorem dX1_allAreBehind_8 : decode cX1_allAreBehind 8 = .ok (.aload_n 0, 1) := by decide +kernel
theorem dX1_allAreBehind_9 : decode cX1_allAreBehind 9 = .ok (.getfield 9, 3) := by decide +kernel
theorem dX1_allAreBehind_12 : decode cX1_allAreBehind 12 = .ok (.iload_n 1, 1) := by decide +kernel
theorem dX1_allAreBehind_13 : decode cX1_allAreBehind 13 = .ok (.iaload, 1) := by decide +kernel
theorem dX1_allAreBehind_14 : decode cX1_allAreBehind 14 = .ok (.iconst 1, 1) := by decide +kernel
theorem dX1_allAreBehind_15 : decode cX1_allAreBehind 15 = .ok (.if_icmp .ne 5, 3) := by decide +kernel
theorem dX1_allAreBehind_18 : decode cX1_allAreBehind 18 = .ok (.iconst 0, 1) := by decide +kernel
theorem dX1_allAreBehind_19 : decode cX1_allAreBehind 19 = .ok (.ireturn, 1) := by decide +kernel
theorem dX1_allAreBehind_20 : decode cX1_allAreBehind 20 = .ok (.iinc 1 1, 3) := by decide +kernel
theorem dX1_allAreBehind_23 : decode cX1_allAreBehind 23 = .ok (.goto (-21), 3) := by decide +kernel
theorem dX1_allAreBehind_26 : decode cX1_allAreBehind 26 = .ok (.iconst 1, 1) := by decide +kernel
theorem dX1_allAreBehind_27 : decode cX1_allAreBehind 27 = .ok (.ireturn, 1) := by decide +kernel
theorem dX2_bytesBehind_0 : decode cX2_bytesBehind 0 = .ok (.iload_n 0, 1) := by decide +kernel
theorem dX2_bytesBehind_1 : decode cX2_bytesBehind 1 = .ok (.sipush 128, 3) := by decide +kernel
theorem dX2_bytesBehind_4 : decode cX2_bytesBehind 4 = .ok (.if_icmp .lt 10, 3) := by decide +kernel
theorem dX2_bytesBehind_7 : decode cX2_bytesBehind 7 = .ok (.iload_n 0, 1) := by decide +kernel
theorem dX2_bytesBehind_8 : decode cX2_bytesBehind 8 = .ok (.sipush 169, 3) := by decide +kernel
theorem dX2_bytesBehind_11 : decode cX2_bytesBehind 11 = .ok (.if_icmp .le 7, 3) := by decide +kernel
theorem dX2_bytesBehind_14 : decode cX2_bytesBehind 14 = .ok (.iconst 0, 1) := by decide +kernel
theorem dX2_bytesBehind_15 : decode cX2_bytesBehind 15 = .ok (.goto 12, 3) := by decide +kernel
theorem dX2_bytesBehind_18 : decode cX2_bytesBehind 18 = .ok (.getstatic 9, 3) := by decide +kernel
theorem dX2_bytesBehind_21 : decode cX2_bytesBehind 21 = .ok (.iload_n 0, 1) := by decide +kernel
theorem dX2_bytesBehind_22 : decode cX2_bytesBehind 22 = .ok (.sipush 128, 3) := by decide +kernel
theorem dX2_bytesBehind_25 : decode cX2_bytesBehind 25 = .ok (.isub, 1) := by decide +kernel
theorem dX2_bytesBehind_26 : decode cX2_bytesBehind 26 = .ok (.iaload, 1) := by decide +kernel
theorem dX2_bytesBehind_27 : decode cX2_bytesBehind 27 = .ok (.ireturn, 1) := by decide +kernel
theorem dX3_init_0 : decode cX3_init 0 = .ok (.aload_n 0, 1) := by decide +kernel
theorem dX3_init_1 : decode cX3_init 1 = .ok (.invokespecial 1, 3) := by decide +kernel
theorem dX3_init_4 : decode cX3_init 4 = .ok (.aload_n 0, 1) := by decide +kernel
theorem dX3_init_5 : decode cX3_init 5 = .ok (.bipush 12, 2) := by decide +kernel
theorem dX3_init_7 : decode cX3_init 7 = .ok (.newarray .int, 2) := by decide +kernel
theorem dX3_init_9 : decode cX3_init 9 = .ok (.putfield 9, 3) := by decide +kernel
theorem dX3_init_12 : decode cX3_init 12 = .ok (.aload_n 0, 1) := by decide +kernel
theorem dX3_init_13 : decode cX3_init 13 = .ok (.bipush 12, 2) := by decide +kernel
theorem dX3_init_15 : decode cX3_init 15 = .ok (.newarray .int, 2) := by decide +kernel
theorem dX3_init_17 : decode cX3_init 17 = .ok (.putfield 13, 3) := by decide +kernel
theorem dX3_init_20 : decode cX3_init 20 = .ok (.aload_n 0, 1) := by decide +kernel
theorem dX3_init_21 : decode cX3_init 21 = .ok (.bipush 12, 2) := by decide +kernel
theorem dX3_init_23 : decode cX3_init 23 = .ok (.newarray .int, 2) := by decide +kernel
theorem dX3_init_25 : decode cX3_init 25 = .ok (.putfield 16, 3) := by decide +kernel
theorem dX3_init_28 : decode cX3_init 28 = .ok (.aload_n 0, 1) := by decide +kernel
theorem dX3_init_29 : decode cX3_init 29 = .ok (.bipush 12, 2) := by decide +kernel
theorem dX3_init_31 : decode cX3_init 31 = .ok (.newarray .int, 2) := by decide +kernel
theorem dX3_init_33 : decode cX3_init 33 = .ok (.putfield 19, 3) := by decide +kernel
theorem dX3_init_36 : decode cX3_init 36 = .ok (.aload_n 0, 1) := by decide +kernel
theorem dX3_init_37 : decode cX3_init 37 = .ok (.sipush 1400, 3) := by decide +kernel
theorem dX3_init_40 : decode cX3_init 40 = .ok (.newarray .int, 2) := by decide +kernel
theorem dX3_init_42 : decode cX3_init 42 = .ok (.putfield 22, 3) := by decide +kernel
theorem dX3_init_45 : decode cX3_init 45 = .ok (.aload_n 0, 1) := by decide +kernel
theorem dX3_init_46 : decode cX3_init 46 = .ok (.iconst 0, 1) := by decide +kernel
theorem dX3_init_47 : decode cX3_init 47 = .ok (.putfield 25, 3) := by decide +kernel
theorem dX3_init_50 : decode cX3_init 50 = .ok (.aload_n 0, 1) := by decide +kernel
theorem dX3_init_51 : decode cX3_init 51 = .ok (.iconst 0, 1) := by decide +kernel
theorem dX3_init_52 : decode cX3_init 52 = .ok (.putfield 29, 3) := by decide +kernel
theorem dX3_init_55 : decode cX3_init 55 = .ok (.return_, 1) := by decide +kernel
theorem dX3_clear_0 : decode cX3_clear 0 = .ok (.aload_n 0, 1) := by decide +kernel
theorem dX3_clear_1 : decode cX3_clear 1 = .ok (.iconst 0, 1) := by decide +kernel
theorem dX3_clear_2 : decode cX3_clear 2 = .ok (.putfield 25, 3) := by decide +kernel
theorem dX3_clear_5 : decode cX3_clear 5 = .ok (.aload_n 0, 1) := by decide +kernel
theorem dX3_clear_6 : decode cX3_clear 6 = .ok (.iconst 0, 1) := by decide +kernel
theorem dX3_clear_7 : decode cX3_clear 7 = .ok (.putfield 29, 3) := by decide +kernel
theorem dX3_clear_10 : decode cX3_clear 10 = .ok (.return_, 1) := by decide +kernel
theorem dX3_count_0 : decode cX3_count 0 = .ok (.aload_n 0, 1) := by decide +kernel
theorem dX3_count_1 : decode cX3_count 1 = .ok (.getfield 25, 3) := by decide +kernel
theorem dX3_count_4 : decode cX3_count 4 = .ok (.ireturn, 1) := by decide +kernel
theorem dX3_begin_0 : decode cX3_begin 0 = .ok (.aload_n 0, 1) := by decide +kernel
theorem dX3_begin_1 : decode cX3_begin 1 = .ok (.getfield 25, 3) := by decide +kernel
theorem dX3_begin_4 : decode cX3_begin 4 = .ok (.bipush 12, 2) := by decide +kernel
theorem dX3_begin_6 : decode cX3_begin 6 = .ok (.if_icmp .lt 5, 3) := by decide +kernel
theorem dX3_begin_9 : decode cX3_begin 9 = .ok (.iconst 0, 1) := by decide +kernel
theorem dX3_begin_10 : decode cX3_begin 10 = .ok (.ireturn, 1) := by decide +kernel
theorem dX3_begin_11 : decode cX3_begin 11 = .ok (.aload_n 0, 1) := by decide +kernel
theorem dX3_begin_12 : decode cX3_begin 12 = .ok (.getfield 9, 3) := by decide +kernel
theorem dX3_begin_15 : decode cX3_begin 15 = .ok (.aload_n 0, 1) := by decide +kernel
theorem dX3_begin_16 : decode cX3_begin 16 = .ok (.getfield 25, 3) := by decide +kernel
theorem dX3_begin_19 : decode cX3_begin 19 = .ok (.iload_n 1, 1) := by decide +kernel
theorem dX3_begin_20 : decode cX3_begin 20 = .ok (.iastore, 1) := by decide +kernel
theorem dX3_begin_21 : decode cX3_begin 21 = .ok (.aload_n 0, 1) := by decide +kernel
theorem dX3_begin_22 : decode cX3_begin 22 = .ok (.getfield 13, 3) := by decide +kernel
theorem dX3_begin_25 : decode cX3_begin 25 = .ok (.aload_n 0, 1) := by decide +kernel
theorem dX3_begin_26 : decode cX3_begin 26 = .ok (.getfield 25, 3) := by decide +kernel
theorem dX3_begin_29 : decode cX3_begin 29 = .ok (.iload_n 2, 1) := by decide +kernel
theorem dX3_begin_30 : decode cX3_begin 30 = .ok (.iastore, 1) := by decide +kernel
theorem dX3_begin_31 : decode cX3_begin 31 = .ok (.aload_n 0, 1) := by decide +kernel
theorem dX3_begin_32 : decode cX3_begin 32 = .ok (.getfield 16, 3) := by decide +kernel
theorem dX3_begin_35 : decode cX3_begin 35 = .ok (.aload_n 0, 1) := by decide +kernel
theorem dX3_begin_36 : decode cX3_begin 36 = .ok (.getfield 25, 3) := by decide +kernel
theorem dX3_begin_39 : decode cX3_begin 39 = .ok (.aload_n 0, 1) := by decide +kernel
theorem dX3_begin_40 : decode cX3_begin 40 = .ok (.getfield 29, 3) := by decide +kernel
theorem dX3_begin_43 : decode cX3_begin 43 = .ok (.iastore, 1) := by decide +kernel
theorem dX3_begin_44 : decode cX3_begin 44 = .ok (.aload_n 0, 1) := by decide +kernel
theorem dX3_begin_45 : decode cX3_begin 45 = .ok (.getfield 19, 3) := by decide +kernel
theorem dX3_begin_48 : decode cX3_begin 48 = .ok (.aload_n 0, 1) := by decide +kernel
theorem dX3_begin_49 : decode cX3_begin 49 = .ok (.getfield 25, 3) := by decide +kernel
theorem dX3_begin_52 : decode cX3_begin 52 = .ok (.iconst 0, 1) := by decide +kernel
theorem dX3_begin_53 : decode cX3_begin 53 = .ok (.iastore, 1) := by decide +kernel
theorem dX3_begin_54 : decode cX3_begin 54 = .ok (.aload_n 0, 1) := by decide +kernel
theorem dX3_begin_55 : decode cX3_begin 55 = .ok (.dup, 1) := by decide +kernel
theorem dX3_begin_56 : decode cX3_begin 56 = .ok (.getfield 25, 3) := by decide +kernel
theorem dX3_begin_59 : decode cX3_begin 59 = .ok (.iconst 1, 1) := by decide +kernel
theorem dX3_begin_60 : decode cX3_begin 60 = .ok (.iadd, 1) := by decide +kernel
theorem dX3_begin_61 : decode cX3_begin 61 = .ok (.putfield 25, 3) := by decide +kernel
theorem dX3_begin_64 : decode cX3_begin 64 = .ok (.iconst 1, 1) := by decide +kernel
theorem dX3_begin_65 : decode cX3_begin 65 = .ok (.ireturn, 1) := by decide +kernel
set_option maxRecDepth 20000 in
theorem ggX3_place_X5_part : GoodIn wsX3_place wsX5_part := goodIn_r _ [9, 10, 18, 19, 20, 21, 22, 23, 24] (by decide +kernel) (by decide +kernel)
set_option maxRecDepth 20000 in
theorem gX3_place_X5_part : GoodIn wsX3_place (wsV RX3 34 RX5 yX5_part wsX5_part) := goodIn_app (goodIn_of _ (by decide +kernel)) ggX3_place_X5_part
theorem dX3_place_0 : decode cX3_place 0 = .ok (.aload_n 0, 1) := by decide +kernel
theorem dX3_place_1 : decode cX3_place 1 = .ok (.getfield 25, 3) := by decide +kernel
theorem dX3_place_4 : decode cX3_place 4 = .ok (.ifCond .eq 13, 3) := by decide +kernel
theorem dX3_place_7 : decode cX3_place 7 = .ok (.aload_n 0, 1) := by decide +kernel
theorem dX3_place_8 : decode cX3_place 8 = .ok (.getfield 29, 3) := by decide +kernel
theorem dX3_place_11 : decode cX3_place 11 = .ok (.sipush 200, 3) := by decide +kernel
theorem dX3_place_14 : decode cX3_place 14 = .ok (.if_icmp .lt 5, 3) := by decide +kernel
theorem dX3_place_17 : decode cX3_place 17 = .ok (.iconst 0, 1) := by decide +kernel
theorem dX3_place_18 : decode cX3_place 18 = .ok (.ireturn, 1) := by decide +kernel
theorem dX3_place_19 : decode cX3_place 19 = .ok (.aload_n 0, 1) := by decide +kernel
theorem dX3_place_20 : decode cX3_place 20 = .ok (.getfield 29, 3) := by decide +kernel
theorem dX3_place_23 : decode cX3_place 23 = .ok (.bipush 7, 2) := by decide +kernel
theorem dX3_place_25 : decode cX3_place 25 = .ok (.imul, 1) := by decide +kernel
theorem dX3_place_26 : decode cX3_place 26 = .ok (.istore 5, 2) := by decide +kernel
theorem dX3_place_28 : decode cX3_place 28 = .ok (.aload_n 0, 1) := by decide +kernel
theorem dX3_place_29 : decode cX3_place 29 = .ok (.getfield 22, 3) := by decide +kernel
theorem dX3_place_32 : decode cX3_place 32 = .ok (.iload 5, 2) := by decide +kernel
theorem dX3_place_34 : decode cX3_place 34 = .ok (.iconst 0, 1) := by decide +kernel
theorem dX3_place_35 : decode cX3_place 35 = .ok (.iadd, 1) := by decide +kernel
theorem dX3_place_36 : decode cX3_place 36 = .ok (.iload_n 1, 1) := by decide +kernel
theorem dX3_place_37 : decode cX3_place 37 = .ok (.iastore, 1) := by decide +kernel
theorem dX3_place_38 : decode cX3_place 38 = .ok (.aload_n 0, 1) := by decide +kernel
theorem dX3_place_39 : decode cX3_place 39 = .ok (.getfield 22, 3) := by decide +kernel
theorem dX3_place_42 : decode cX3_place 42 = .ok (.iload 5, 2) := by decide +kernel
theorem dX3_place_44 : decode cX3_place 44 = .ok (.iconst 1, 1) := by decide +kernel
theorem dX3_place_45 : decode cX3_place 45 = .ok (.iadd, 1) := by decide +kernel
theorem dX3_place_46 : decode cX3_place 46 = .ok (.iload_n 2, 1) := by decide +kernel
theorem dX3_place_47 : decode cX3_place 47 = .ok (.iastore, 1) := by decide +kernel
theorem dX3_place_48 : decode cX3_place 48 = .ok (.aload_n 0, 1) := by decide +kernel
theorem dX3_place_49 : decode cX3_place 49 = .ok (.getfield 22, 3) := by decide +kernel
theorem dX3_place_52 : decode cX3_place 52 = .ok (.iload 5, 2) := by decide +kernel
theorem dX3_place_54 : decode cX3_place 54 = .ok (.iconst 2, 1) := by decide +kernel
theorem dX3_place_55 : decode cX3_place 55 = .ok (.iadd, 1) := by decide +kernel
theorem dX3_place_56 : decode cX3_place 56 = .ok (.aload 4, 2) := by decide +kernel
theorem dX3_place_58 : decode cX3_place 58 = .ok (.iconst 0, 1) := by decide +kernel
theorem dX3_place_59 : decode cX3_place 59 = .ok (.invokevirtual 34, 3) := by decide +kernel
theorem dX3_place_62 : decode cX3_place 62 = .ok (.iastore, 1) := by decide +kernel
theorem dX3_place_63 : decode cX3_place 63 = .ok (.aload_n 0, 1) := by decide +kernel
theorem dX3_place_64 : decode cX3_place 64 = .ok (.getfield 22, 3) := by decide +kernel
theorem dX3_place_67 : decode cX3_place 67 = .ok (.iload 5, 2) := by decide +kernel
theorem dX3_place_69 : decode cX3_place 69 = .ok (.iconst 3, 1) := by decide +kernel
theorem dX3_place_70 : decode cX3_place 70 = .ok (.iadd, 1) := by decide +kernel
theorem dX3_place_71 : decode cX3_place 71 = .ok (.aload 4, 2) := by decide +kernel
theorem dX3_place_73 : decode cX3_place 73 = .ok (.iconst 1, 1) := by decide +kernel
theorem dX3_place_74 : decode cX3_place 74 = .ok (.invokevirtual 34, 3) := by decide +kernel
theorem dX3_place_77 : decode cX3_place 77 = .ok (.iastore, 1) := by decide +kernel
theorem dX3_place_78 : decode cX3_place 78 = .ok (.aload_n 0, 1) := by decide +kernel
theorem dX3_place_79 : decode cX3_place 79 = .ok (.getfield 22, 3) := by decide +kernel
theorem dX3_place_82 : decode cX3_place 82 = .ok (.iload 5, 2) := by decide +kernel
theorem dX3_place_84 : decode cX3_place 84 = .ok (.iconst 4, 1) := by decide +kernel
theorem dX3_place_85 : decode cX3_place 85 = .ok (.iadd, 1) := by decide +kernel
theorem dX3_place_86 : decode cX3_place 86 = .ok (.aload 4, 2) := by decide +kernel
theorem dX3_place_88 : decode cX3_place 88 = .ok (.iconst 2, 1) := by decide +kernel
theorem dX3_place_89 : decode cX3_place 89 = .ok (.invokevirtual 34, 3) := by decide +kernel
theorem dX3_place_92 : decode cX3_place 92 = .ok (.iastore, 1) := by decide +kernel
theorem dX3_place_93 : decode cX3_place 93 = .ok (.aload_n 0, 1) := by decide +kernel
theorem dX3_place_94 : decode cX3_place 94 = .ok (.getfield 22, 3) := by decide +kernel
theorem dX3_place_97 : decode cX3_place 97 = .ok (.iload 5, 2) := by decide +kernel
theorem dX3_place_99 : decode cX3_place 99 = .ok (.iconst 5, 1) := by decide +kernel
theorem dX3_place_100 : decode cX3_place 100 = .ok (.iadd, 1) := by decide +kernel
theorem dX3_place_101 : decode cX3_place 101 = .ok (.aload 4, 2) := by decide +kernel
theorem dX3_place_103 : decode cX3_place 103 = .ok (.iconst 3, 1) := by decide +kernel
theorem dX3_place_104 : decode cX3_place 104 = .ok (.invokevirtual 34, 3) := by decide +kernel
theorem dX3_place_107 : decode cX3_place 107 = .ok (.iastore, 1) := by decide +kernel
theorem dX3_place_108 : decode cX3_place 108 = .ok (.aload_n 0, 1) := by decide +kernel
theorem dX3_place_109 : decode cX3_place 109 = .ok (.getfield 22, 3) := by decide +kernel
theorem dX3_place_112 : decode cX3_place 112 = .ok (.iload 5, 2) := by decide +kernel
theorem dX3_place_114 : decode cX3_place 114 = .ok (.bipush 6, 2) := by decide +kernel
theorem dX3_place_116 : decode cX3_place 116 = .ok (.iadd, 1) := by decide +kernel
theorem dX3_place_117 : decode cX3_place 117 = .ok (.iload_n 3, 1) := by decide +kernel
theorem dX3_place_118 : decode cX3_place 118 = .ok (.iastore, 1) := by decide +kernel
theorem dX3_place_119 : decode cX3_place 119 = .ok (.aload_n 0, 1) := by decide +kernel
theorem dX3_place_120 : decode cX3_place 120 = .ok (.dup, 1) := by decide +kernel
theorem dX3_place_121 : decode cX3_place 121 = .ok (.getfield 29, 3) := by decide +kernel
theorem dX3_place_124 : decode cX3_place 124 = .ok (.iconst 1, 1) := by decide +kernel
theorem dX3_place_125 : decode cX3_place 125 = .ok (.iadd, 1) := by decide +kernel
theorem dX3_place_126 : decode cX3_place 126 = .ok (.putfield 29, 3) := by decide +kernel
theorem dX3_place_129 : decode cX3_place 129 = .ok (.aload_n 0, 1) := by decide +kernel
theorem dX3_place_130 : decode cX3_place 130 = .ok (.getfield 19, 3) := by decide +kernel
theorem dX3_place_133 : decode cX3_place 133 = .ok (.aload_n 0, 1) := by decide +kernel
theorem dX3_place_134 : decode cX3_place 134 = .ok (.getfield 25, 3) := by decide +kernel
theorem dX3_place_137 : decode cX3_place 137 = .ok (.iconst 1, 1) := by decide +kernel
theorem dX3_place_138 : decode cX3_place 138 = .ok (.isub, 1) := by decide +kernel
theorem dX3_place_139 : decode cX3_place 139 = .ok (.dup2, 1) := by decide +kernel
theorem dX3_place_140 : decode cX3_place 140 = .ok (.iaload, 1) := by decide +kernel
theorem dX3_place_141 : decode cX3_place 141 = .ok (.iconst 1, 1) := by decide +kernel
theorem dX3_place_142 : decode cX3_place 142 = .ok (.iadd, 1) := by decide +kernel
theorem dX3_place_143 : decode cX3_place 143 = .ok (.iastore, 1) := by decide +kernel
theorem dX3_place_144 : decode cX3_place 144 = .ok (.iconst 1, 1) := by decide +kernel
theorem dX3_place_145 : decode cX3_place 145 = .ok (.ireturn, 1) := by decide +kernel
theorem dX3_has_0 : decode cX3_has 0 = .ok (.iload_n 1, 1) := by decide +kernel
theorem dX3_has_1 : decode cX3_has 1 = .ok (.ifCond .lt 15, 3) := by decide +kernel
theorem dX3_has_4 : decode cX3_has 4 = .ok (.iload_n 1, 1) := by decide +kernel
theorem dX3_has_5 : decode cX3_has 5 = .ok (.aload_n 0, 1) := by decide +kernel
theorem dX3_has_6 : decode cX3_has 6 = .ok (.getfield 25, 3) := by decide +kernel
theorem dX3_has_9 : decode cX3_has 9 = .ok (.if_icmp .ge 7, 3) := by decide +kernel
theorem dX3_has_12 : decode cX3_has 12 = .ok (.iconst 1, 1) := by decide +kernel
theorem dX3_has_13 : decode cX3_has 13 = .ok (.goto 4, 3) := by decide +kernel
theorem dX3_has_16 : decode cX3_has 16 = .ok (.iconst 0, 1) := by decide +kernel
theorem dX3_has_17 : decode cX3_has 17 = .ok (.ireturn, 1) := by decide +kernel
set_option maxRecDepth 20000 in
theorem ggX3_hasItem_X3_has : GoodIn wsX3_hasItem wsX3_has := goodIn_r _ [6, 7, 8, 9, 10, 11, 12, 13, 14] (by decide +kernel) (by decide +kernel)
set_option maxRecDepth 20000 in
theorem gX3_hasItem_X3_has : GoodIn wsX3_hasItem (wsV RX3 38 RX3 yX3_has wsX3_has) := goodIn_app (goodIn_of _ (by decide +kernel)) ggX3_hasItem_X3_has
theorem dX3_hasItem_0 : decode cX3_hasItem 0 = .ok (.aload_n 0, 1) := by decide +kernel
theorem dX3_hasItem_1 : decode cX3_hasItem 1 = .ok (.iload_n 1, 1) := by decide +kernel
theorem dX3_hasItem_2 : decode cX3_hasItem 2 = .ok (.invokevirtual 38, 3) := by decide +kernel
theorem dX3_hasItem_5 : decode cX3_hasItem 5 = .ok (.ifCond .eq 21, 3) := by decide +kernel
theorem dX3_hasItem_8 : decode cX3_hasItem 8 = .ok (.iload_n 2, 1) := by decide +kernel
theorem dX3_hasItem_9 : decode cX3_hasItem 9 = .ok (.ifCond .lt 17, 3) := by decide +kernel
theorem dX3_hasItem_12 : decode cX3_hasItem 12 = .ok (.iload_n 2, 1) := by decide +kernel
theorem dX3_hasItem_13 : decode cX3_hasItem 13 = .ok (.aload_n 0, 1) := by decide +kernel
theorem dX3_hasItem_14 : decode cX3_hasItem 14 = .ok (.getfield 19, 3) := by decide +kernel
theorem dX3_hasItem_17 : decode cX3_hasItem 17 = .ok (.iload_n 1, 1) := by decide +kernel
theorem dX3_hasItem_18 : decode cX3_hasItem 18 = .ok (.iaload, 1) := by decide +kernel
theorem dX3_hasItem_19 : decode cX3_hasItem 19 = .ok (.if_icmp .ge 7, 3) := by decide +kernel
theorem dX3_hasItem_22 : decode cX3_hasItem 22 = .ok (.iconst 1, 1) := by decide +kernel
theorem dX3_hasItem_23 : decode cX3_hasItem 23 = .ok (.goto 4, 3) := by decide +kernel
theorem dX3_hasItem_26 : decode cX3_hasItem 26 = .ok (.iconst 0, 1) := by decide +kernel
theorem dX3_hasItem_27 : decode cX3_hasItem 27 = .ok (.ireturn, 1) := by decide +kernel
set_option maxRecDepth 20000 in
theorem ggX3_numberOf_X3_has : GoodIn wsX3_numberOf wsX3_has := goodIn_r _ [6, 7, 8, 9, 10, 11, 12, 13, 14] (by decide +kernel) (by decide +kernel)
set_option maxRecDepth 20000 in
theorem gX3_numberOf_X3_has : GoodIn wsX3_numberOf (wsV RX3 38 RX3 yX3_has wsX3_has) := goodIn_app (goodIn_of _ (by decide +kernel)) ggX3_numberOf_X3_has
theorem dX3_numberOf_0 : decode cX3_numberOf 0 = .ok (.aload_n 0, 1) := by decide +kernel
theorem dX3_numberOf_1 : decode cX3_numberOf 1 = .ok (.iload_n 1, 1) := by decide +kernel
theorem dX3_numberOf_2 : decode cX3_numberOf 2 = .ok (.invokevirtual 38, 3) := by decide +kernel
theorem dX3_numberOf_5 : decode cX3_numberOf 5 = .ok (.ifCond .eq 12, 3) := by decide +kernel
theorem dX3_numberOf_8 : decode cX3_numberOf 8 = .ok (.aload_n 0, 1) := by decide +kernel
theorem dX3_numberOf_9 : decode cX3_numberOf 9 = .ok (.getfield 9, 3) := by decide +kernel
theorem dX3_numberOf_12 : decode cX3_numberOf 12 = .ok (.iload_n 1, 1) := by decide +kernel
theorem dX3_numberOf_13 : decode cX3_numberOf 13 = .ok (.iaload, 1) := by decide +kernel
theorem dX3_numberOf_14 : decode cX3_numberOf 14 = .ok (.goto 4, 3) := by decide +kernel
theorem dX3_numberOf_17 : decode cX3_numberOf 17 = .ok (.iconst 0, 1) := by decide +kernel
theorem dX3_numberOf_18 : decode cX3_numberOf 18 = .ok (.ireturn, 1) := by decide +kernel
set_option maxRecDepth 20000 in
theorem ggX3_itemsOf_X3_has : GoodIn wsX3_itemsOf wsX3_has := goodIn_r _ [6, 7, 8, 9, 10, 11, 12, 13, 14] (by decide +kernel) (by decide +kernel)
set_option maxRecDepth 20000 in
theorem gX3_itemsOf_X3_has : GoodIn wsX3_itemsOf (wsV RX3 38 RX3 yX3_has wsX3_has) := goodIn_app (goodIn_of _ (by decide +kernel)) ggX3_itemsOf_X3_has
theorem dX3_itemsOf_0 : decode cX3_itemsOf 0 = .ok (.aload_n 0, 1) := by decide +kernel
theorem dX3_itemsOf_1 : decode cX3_itemsOf 1 = .ok (.iload_n 1, 1) := by decide +kernel
theorem dX3_itemsOf_2 : decode cX3_itemsOf 2 = .ok (.invokevirtual 38, 3) := by decide +kernel
theorem dX3_itemsOf_5 : decode cX3_itemsOf 5 = .ok (.ifCond .eq 12, 3) := by decide +kernel
theorem dX3_itemsOf_8 : decode cX3_itemsOf 8 = .ok (.aload_n 0, 1) := by decide +kernel
theorem dX3_itemsOf_9 : decode cX3_itemsOf 9 = .ok (.getfield 19, 3) := by decide +kernel
theorem dX3_itemsOf_12 : decode cX3_itemsOf 12 = .ok (.iload_n 1, 1) := by decide +kernel
theorem dX3_itemsOf_13 : decode cX3_itemsOf 13 = .ok (.iaload, 1) := by decide +kernel
theorem dX3_itemsOf_14 : decode cX3_itemsOf 14 = .ok (.goto 4, 3) := by decide +kernel
theorem dX3_itemsOf_17 : decode cX3_itemsOf 17 = .ok (.iconst 0, 1) := by decide +kernel
theorem dX3_itemsOf_18 : decode cX3_itemsOf 18 = .ok (.ireturn, 1) := by decide +kernel
set_option maxRecDepth 20000 in
theorem ggX3_addressOf_X3_has : GoodIn wsX3_addressOf wsX3_has := goodIn_r _ [6, 7, 8, 9, 10, 11, 12, 13, 14] (by decide +kernel) (by decide +kernel)
set_option maxRecDepth 20000 in
theorem gX3_addressOf_X3_has : GoodIn wsX3_addressOf (wsV RX3 38 RX3 yX3_has wsX3_has) := goodIn_app (goodIn_of _ (by decide +kernel)) ggX3_addressOf_X3_has
theorem dX3_addressOf_0 : decode cX3_addressOf 0 = .ok (.aload_n 0, 1) := by decide +kernel
theorem dX3_addressOf_1 : decode cX3_addressOf 1 = .ok (.iload_n 1, 1) := by decide +kernel
theorem dX3_addressOf_2 : decode cX3_addressOf 2 = .ok (.invokevirtual 38, 3) := by decide +kernel
theorem dX3_addressOf_5 : decode cX3_addressOf 5 = .ok (.ifCond .eq 12, 3) := by decide +kernel
theorem dX3_addressOf_8 : decode cX3_addressOf 8 = .ok (.aload_n 0, 1) := by decide +kernel
theorem dX3_addressOf_9 : decode cX3_addressOf 9 = .ok (.getfield 13, 3) := by decide +kernel
theorem dX3_addressOf_12 : decode cX3_addressOf 12 = .ok (.iload_n 1, 1) := by decide +kernel
theorem dX3_addressOf_13 : decode cX3_addressOf 13 = .ok (.iaload, 1) := by decide +kernel
theorem dX3_addressOf_14 : decode cX3_addressOf 14 = .ok (.goto 4, 3) := by decide +kernel
theorem dX3_addressOf_17 : decode cX3_addressOf 17 = .ok (.iconst 0, 1) := by decide +kernel
theorem dX3_addressOf_18 : decode cX3_addressOf 18 = .ok (.ireturn, 1) := by decide +kernel
set_option maxRecDepth 20000 in
theorem ggX3_partOf_X3_hasItem : GoodIn wsX3_partOf wsX3_hasItem := goodIn_r _ [7, 8, 9, 10, 11, 6, 12, 13, 14, 15, 16, 17, 18, 19, 20] (by decide +kernel) (by decide +kernel)
set_option maxRecDepth 20000 in
theorem gX3_partOf_X3_hasItem : GoodIn wsX3_partOf (wsV RX3 42 RX3 yX3_hasItem wsX3_hasItem) := goodIn_app (goodIn_of _ (by decide +kernel)) ggX3_partOf_X3_hasItem
theorem dX3_partOf_0 : decode cX3_partOf 0 = .ok (.aload_n 0, 1) := by decide +kernel
theorem dX3_partOf_1 : decode cX3_partOf 1 = .ok (.iload_n 1, 1) := by decide +kernel
theorem dX3_partOf_2 : decode cX3_partOf 2 = .ok (.iload_n 2, 1) := by decide +kernel
theorem dX3_partOf_3 : decode cX3_partOf 3 = .ok (.invokevirtual 42, 3) := by decide +kernel
theorem dX3_partOf_6 : decode cX3_partOf 6 = .ok (.ifCond .eq 13, 3) := by decide +kernel
theorem dX3_partOf_9 : decode cX3_partOf 9 = .ok (.iload_n 3, 1) := by decide +kernel
theorem dX3_partOf_10 : decode cX3_partOf 10 = .ok (.ifCond .lt 9, 3) := by decide +kernel
theorem dX3_partOf_13 : decode cX3_partOf 13 = .ok (.iload_n 3, 1) := by decide +kernel
theorem dX3_partOf_14 : decode cX3_partOf 14 = .ok (.bipush 7, 2) := by decide +kernel
theorem dX3_partOf_16 : decode cX3_partOf 16 = .ok (.if_icmp .lt 5, 3) := by decide +kernel
theorem dX3_partOf_19 : decode cX3_partOf 19 = .ok (.iconst 0, 1) := by decide +kernel
theorem dX3_partOf_20 : decode cX3_partOf 20 = .ok (.ireturn, 1) := by decide +kernel
theorem dX3_partOf_21 : decode cX3_partOf 21 = .ok (.aload_n 0, 1) := by decide +kernel
theorem dX3_partOf_22 : decode cX3_partOf 22 = .ok (.getfield 22, 3) := by decide +kernel
theorem dX3_partOf_25 : decode cX3_partOf 25 = .ok (.aload_n 0, 1) := by decide +kernel
theorem dX3_partOf_26 : decode cX3_partOf 26 = .ok (.getfield 16, 3) := by decide +kernel
theorem dX3_partOf_29 : decode cX3_partOf 29 = .ok (.iload_n 1, 1) := by decide +kernel
theorem dX3_partOf_30 : decode cX3_partOf 30 = .ok (.iaload, 1) := by decide +kernel
theorem dX3_partOf_31 : decode cX3_partOf 31 = .ok (.iload_n 2, 1) := by decide +kernel
theorem dX3_partOf_32 : decode cX3_partOf 32 = .ok (.iadd, 1) := by decide +kernel
theorem dX3_partOf_33 : decode cX3_partOf 33 = .ok (.bipush 7, 2) := by decide +kernel
theorem dX3_partOf_35 : decode cX3_partOf 35 = .ok (.imul, 1) := by decide +kernel
theorem dX3_partOf_36 : decode cX3_partOf 36 = .ok (.iload_n 3, 1) := by decide +kernel
theorem dX3_partOf_37 : decode cX3_partOf 37 = .ok (.iadd, 1) := by decide +kernel
theorem dX3_partOf_38 : decode cX3_partOf 38 = .ok (.iaload, 1) := by decide +kernel
theorem dX3_partOf_39 : decode cX3_partOf 39 = .ok (.ireturn, 1) := by decide +kernel
set_option maxRecDepth 20000 in
theorem ggX3_greatest_X3_extreme : GoodIn wsX3_greatest wsX3_extreme := goodIn_r _ [5, 6, 7, 8, 9, 10, 11, 12, 13, 14, 15, 16, 17, 18, 19, 20, 21] (by decide +kernel) (by decide +kernel)
set_option maxRecDepth 20000 in
theorem gX3_greatest_X3_extreme : GoodIn wsX3_greatest (wsV RX3 46 RX3 yX3_extreme wsX3_extreme) := goodIn_app (goodIn_of _ (by decide +kernel)) ggX3_greatest_X3_extreme
theorem dX3_greatest_0 : decode cX3_greatest 0 = .ok (.aload_n 0, 1) := by decide +kernel
theorem dX3_greatest_1 : decode cX3_greatest 1 = .ok (.iload_n 1, 1) := by decide +kernel
theorem dX3_greatest_2 : decode cX3_greatest 2 = .ok (.iconst 1, 1) := by decide +kernel
theorem dX3_greatest_3 : decode cX3_greatest 3 = .ok (.invokevirtual 46, 3) := by decide +kernel
theorem dX3_greatest_6 : decode cX3_greatest 6 = .ok (.ireturn, 1) := by decide +kernel
set_option maxRecDepth 20000 in
theorem ggX3_least_X3_extreme : GoodIn wsX3_least wsX3_extreme := goodIn_r _ [5, 6, 7, 8, 9, 10, 11, 12, 13, 14, 15, 16, 17, 18, 19, 20, 21] (by decide +kernel) (by decide +kernel)
set_option maxRecDepth 20000 in
theorem gX3_least_X3_extreme : GoodIn wsX3_least (wsV RX3 46 RX3 yX3_extreme wsX3_extreme) := goodIn_app (goodIn_of _ (by decide +kernel)) ggX3_least_X3_extreme
theorem dX3_least_0 : decode cX3_least 0 = .ok (.aload_n 0, 1) := by decide +kernel
theorem dX3_least_1 : decode cX3_least 1 = .ok (.iload_n 1, 1) := by decide +kernel
theorem dX3_least_2 : decode cX3_least 2 = .ok (.iconst 0, 1) := by decide +kernel
theorem dX3_least_3 : decode cX3_least 3 = .ok (.invokevirtual 46, 3) := by decide +kernel
theorem dX3_least_6 : decode cX3_least 6 = .ok (.ireturn, 1) := by decide +kernel
theorem dX3_extreme_0 : decode cX3_extreme 0 = .ok (.aload_n 0, 1) := by decide +kernel
theorem dX3_extreme_1 : decode cX3_extreme 1 = .ok (.getfield 29, 3) := by decide +kernel
theorem dX3_extreme_4 : decode cX3_extreme 4 = .ok (.ifCond .eq 13, 3) := by decide +kernel
theorem dX3_extreme_7 : decode cX3_extreme 7 = .ok (.iload_n 1, 1) := by decide +kernel
theorem dX3_extreme_8 : decode cX3_extreme 8 = .ok (.ifCond .lt 9, 3) := by decide +kernel
theorem dX3_extreme_11 : decode cX3_extreme 11 = .ok (.iload_n 1, 1) := by decide +kernel
theorem dX3_extreme_12 : decode cX3_extreme 12 = .ok (.bipush 7, 2) := by decide +kernel
theorem dX3_extreme_14 : decode cX3_extreme 14 = .ok (.if_icmp .lt 5, 3) := by decide +kernel
theorem dX3_extreme_17 : decode cX3_extreme 17 = .ok (.iconst 0, 1) := by decide +kernel
theorem dX3_extreme_18 : decode cX3_extreme 18 = .ok (.ireturn, 1) := by decide +kernel
theorem dX3_extreme_19 : decode cX3_extreme 19 = .ok (.aload_n 0, 1) := by decide +kernel
theorem dX3_extreme_20 : decode cX3_extreme 20 = .ok (.getfield 22, 3) := by decide +kernel
theorem dX3_extreme_23 : decode cX3_extreme 23 = .ok (.iload_n 1, 1) := by decide +kernel
theorem dX3_extreme_24 : decode cX3_extreme 24 = .ok (.iaload, 1) := by decide +kernel
theorem dX3_extreme_25 : decode cX3_extreme 25 = .ok (.istore_n 3, 1) := by decide +kernel
theorem dX3_extreme_26 : decode cX3_extreme 26 = .ok (.iconst 1, 1) := by decide +kernel
theorem dX3_extreme_27 : decode cX3_extreme 27 = .ok (.istore 4, 2) := by decide +kernel
theorem dX3_extreme_29 : decode cX3_extreme 29 = .ok (.iload 4, 2) := by decide +kernel
theorem dX3_extreme_31 : decode cX3_extreme 31 = .ok (.aload_n 0, 1) := by decide +kernel
theorem dX3_extreme_32 : decode cX3_extreme 32 = .ok (.getfield 29, 3) := by decide +kernel
theorem dX3_extreme_35 : decode cX3_extreme 35 = .ok (.if_icmp .ge 43, 3) := by decide +kernel
theorem dX3_extreme_38 : decode cX3_extreme 38 = .ok (.aload_n 0, 1) := by decide +kernel
theorem dX3_extreme_39 : decode cX3_extreme 39 = .ok (.getfield 22, 3) := by decide +kernel
theorem dX3_extreme_42 : decode cX3_extreme 42 = .ok (.iload 4, 2) := by decide +kernel
theorem dX3_extreme_44 : decode cX3_extreme 44 = .ok (.bipush 7, 2) := by decide +kernel
theorem dX3_extreme_46 : decode cX3_extreme 46 = .ok (.imul, 1) := by decide +kernel
theorem dX3_extreme_47 : decode cX3_extreme 47 = .ok (.iload_n 1, 1) := by decide +kernel
theorem dX3_extreme_48 : decode cX3_extreme 48 = .ok (.iadd, 1) := by decide +kernel
theorem dX3_extreme_49 : decode cX3_extreme 49 = .ok (.iaload, 1) := by decide +kernel
theorem dX3_extreme_50 : decode cX3_extreme 50 = .ok (.istore 5, 2) := by decide +kernel
theorem dX3_extreme_52 : decode cX3_extreme 52 = .ok (.iload_n 2, 1) := by decide +kernel
theorem dX3_extreme_53 : decode cX3_extreme 53 = .ok (.ifCond .eq 12, 3) := by decide +kernel
theorem dX3_extreme_56 : decode cX3_extreme 56 = .ok (.iload_n 3, 1) := by decide +kernel
theorem dX3_extreme_57 : decode cX3_extreme 57 = .ok (.iload 5, 2) := by decide +kernel
theorem dX3_extreme_59 : decode cX3_extreme 59 = .ok (.invokestatic 50, 3) := by decide +kernel
theorem dX3_extreme_62 : decode cX3_extreme 62 = .ok (.goto 9, 3) := by decide +kernel
theorem dX3_extreme_65 : decode cX3_extreme 65 = .ok (.iload_n 3, 1) := by decide +kernel
theorem dX3_extreme_66 : decode cX3_extreme 66 = .ok (.iload 5, 2) := by decide +kernel
theorem dX3_extreme_68 : decode cX3_extreme 68 = .ok (.invokestatic 56, 3) := by decide +kernel
theorem dX3_extreme_71 : decode cX3_extreme 71 = .ok (.istore_n 3, 1) := by decide +kernel
theorem dX3_extreme_72 : decode cX3_extreme 72 = .ok (.iinc 4 1, 3) := by decide +kernel
theorem dX3_extreme_75 : decode cX3_extreme 75 = .ok (.goto (-46), 3) := by decide +kernel
theorem dX3_extreme_78 : decode cX3_extreme 78 = .ok (.iload_n 3, 1) := by decide +kernel
theorem dX3_extreme_79 : decode cX3_extreme 79 = .ok (.ireturn, 1) := by decide +kernel
theorem dX4_init_0 : decode cX4_init 0 = .ok (.aload_n 0, 1) := by decide +kernel
theorem dX4_init_1 : decode cX4_init 1 = .ok (.invokespecial 1, 3) := by decide +kernel
theorem dX4_init_4 : decode cX4_init 4 = .ok (.aload_n 0, 1) := by decide +kernel
theorem dX4_init_5 : decode cX4_init 5 = .ok (.dconst 0, 1) := by decide +kernel
theorem dX4_init_6 : decode cX4_init 6 = .ok (.putfield 7, 3) := by decide +kernel
theorem dX4_init_9 : decode cX4_init 9 = .ok (.return_, 1) := by decide +kernel
theorem dX4_clear_0 : decode cX4_clear 0 = .ok (.aload_n 0, 1) := by decide +kernel
theorem dX4_clear_1 : decode cX4_clear 1 = .ok (.dconst 0, 1) := by decide +kernel
theorem dX4_clear_2 : decode cX4_clear 2 = .ok (.putfield 7, 3) := by decide +kernel
theorem dX4_clear_5 : decode cX4_clear 5 = .ok (.return_, 1) := by decide +kernel
theorem dX4_become_0 : decode cX4_become 0 = .ok (.iload_n 1, 1) := by decide +kernel
theorem dX4_become_1 : decode cX4_become 1 = .ok (.iconst 1, 1) := by decide +kernel
theorem dX4_become_2 : decode cX4_become 2 = .ok (.if_icmp .lt 13, 3) := by decide +kernel
theorem dX4_become_5 : decode cX4_become 5 = .ok (.iload_n 2, 1) := by decide +kernel
theorem dX4_become_6 : decode cX4_become 6 = .ok (.iconst 1, 1) := by decide +kernel
