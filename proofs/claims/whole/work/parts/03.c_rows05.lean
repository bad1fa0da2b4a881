set_option maxRecDepth 20000 in
theorem ggX2_take_X0_takeNumbers : GoodIn wsX2_take wsX0_takeNumbers := goodIn_r _ [18, 10, 19, 9, 20, 21, 22, 23, 32, 33, 34] (by decide +kernel) (by decide +kernel)
set_option maxRecDepth 20000 in
theorem gX2_take_X0_takeNumbers : GoodIn wsX2_take (wsV RX2 145 RX0 yX0_takeNumbers wsX0_takeNumbers) := goodIn_app (goodIn_of _ (by decide +kernel)) ggX2_take_X0_takeNumbers
theorem dX2_take_0 : decode cX2_take 0 = .ok (.aload_n 0, 1) := by decide +kernel
theorem dX2_take_1 : decode cX2_take 1 = .ok (.getfield 21, 3) := by decide +kernel
theorem dX2_take_4 : decode cX2_take 4 = .ok (.invokevirtual 139, 3) := by decide +kernel
theorem dX2_take_7 : decode cX2_take 7 = .ok (.aload_n 0, 1) := by decide +kernel
theorem dX2_take_8 : decode cX2_take 8 = .ok (.getfield 12, 3) := by decide +kernel
theorem dX2_take_11 : decode cX2_take 11 = .ok (.getfield 25, 3) := by decide +kernel
theorem dX2_take_14 : decode cX2_take 14 = .ok (.if_icmp .lt 6, 3) := by decide +kernel
theorem dX2_take_17 : decode cX2_take 17 = .ok (.bipush (-3), 2) := by decide +kernel
theorem dX2_take_19 : decode cX2_take 19 = .ok (.ireturn, 1) := by decide +kernel
theorem dX2_take_20 : decode cX2_take 20 = .ok (.aload_n 0, 1) := by decide +kernel
theorem dX2_take_21 : decode cX2_take 21 = .ok (.getfield 21, 3) := by decide +kernel
theorem dX2_take_24 : decode cX2_take 24 = .ok (.invokevirtual 145, 3) := by decide +kernel
theorem dX2_take_27 : decode cX2_take 27 = .ok (.iconst 1, 1) := by decide +kernel
theorem dX2_take_28 : decode cX2_take 28 = .ok (.ireturn, 1) := by decide +kernel
set_option maxRecDepth 20000 in
theorem ggX2_count_X1_pairCount : GoodIn wsX2_count wsX1_pairCount := goodIn_r _ [11, 12, 13, 14, 15, 16, 17, 18, 19, 20, 41, 42, 43, 44, 45, 46] (by decide +kernel) (by decide +kernel)
set_option maxRecDepth 20000 in
theorem gX2_count_X1_pairCount : GoodIn wsX2_count (wsV RX2 148 RX1 yX1_pairCount wsX1_pairCount) := goodIn_app (goodIn_of _ (by decide +kernel)) ggX2_count_X1_pairCount
set_option maxRecDepth 20000 in
theorem ggX2_count_X0_unlike : GoodIn wsX2_count wsX0_unlike := goodIn_r _ [25, 26, 27, 28, 24, 29, 47, 48, 49] (by decide +kernel) (by decide +kernel)
set_option maxRecDepth 20000 in
theorem gX2_count_X0_unlike : GoodIn wsX2_count (wsV RX2 151 RX0 yX0_unlike wsX0_unlike) := goodIn_app (goodIn_of _ (by decide +kernel)) ggX2_count_X0_unlike
set_option maxRecDepth 20000 in
theorem ggX2_count_X0_likeNeighbours : GoodIn wsX2_count wsX0_likeNeighbours := goodIn_r _ [33, 26, 34, 35, 36, 37, 24, 38, 47, 48, 49] (by decide +kernel) (by decide +kernel)
set_option maxRecDepth 20000 in
theorem gX2_count_X0_likeNeighbours : GoodIn wsX2_count (wsV RX2 133 RX0 yX0_likeNeighbours wsX0_likeNeighbours) := goodIn_app (goodIn_of _ (by decide +kernel)) ggX2_count_X0_likeNeighbours
theorem dX2_count_0 : decode cX2_count 0 = .ok (.iload_n 1, 1) := by decide +kernel
theorem dX2_count_1 : decode cX2_count 1 = .ok (.tableswitch 101 0 5 #[39, 47, 55, 63, 78, 86], 39) := by decide +kernel
theorem dX2_count_40 : decode cX2_count 40 = .ok (.aload_n 0, 1) := by decide +kernel
theorem dX2_count_41 : decode cX2_count 41 = .ok (.getfield 12, 3) := by decide +kernel
theorem dX2_count_44 : decode cX2_count 44 = .ok (.getfield 25, 3) := by decide +kernel
theorem dX2_count_47 : decode cX2_count 47 = .ok (.ireturn, 1) := by decide +kernel
theorem dX2_count_48 : decode cX2_count 48 = .ok (.aload_n 0, 1) := by decide +kernel
theorem dX2_count_49 : decode cX2_count 49 = .ok (.getfield 12, 3) := by decide +kernel
theorem dX2_count_52 : decode cX2_count 52 = .ok (.invokevirtual 148, 3) := by decide +kernel
theorem dX2_count_55 : decode cX2_count 55 = .ok (.ireturn, 1) := by decide +kernel
theorem dX2_count_56 : decode cX2_count 56 = .ok (.aload_n 0, 1) := by decide +kernel
theorem dX2_count_57 : decode cX2_count 57 = .ok (.getfield 21, 3) := by decide +kernel
theorem dX2_count_60 : decode cX2_count 60 = .ok (.getfield 108, 3) := by decide +kernel
theorem dX2_count_63 : decode cX2_count 63 = .ok (.ireturn, 1) := by decide +kernel
theorem dX2_count_64 : decode cX2_count 64 = .ok (.aload_n 0, 1) := by decide +kernel
theorem dX2_count_65 : decode cX2_count 65 = .ok (.getfield 21, 3) := by decide +kernel
theorem dX2_count_68 : decode cX2_count 68 = .ok (.aload_n 0, 1) := by decide +kernel
theorem dX2_count_69 : decode cX2_count 69 = .ok (.getfield 21, 3) := by decide +kernel
theorem dX2_count_72 : decode cX2_count 72 = .ok (.getfield 130, 3) := by decide +kernel
theorem dX2_count_75 : decode cX2_count 75 = .ok (.invokevirtual 151, 3) := by decide +kernel
theorem dX2_count_78 : decode cX2_count 78 = .ok (.ireturn, 1) := by decide +kernel
theorem dX2_count_79 : decode cX2_count 79 = .ok (.aload_n 0, 1) := by decide +kernel
theorem dX2_count_80 : decode cX2_count 80 = .ok (.getfield 21, 3) := by decide +kernel
theorem dX2_count_83 : decode cX2_count 83 = .ok (.invokevirtual 133, 3) := by decide +kernel
theorem dX2_count_86 : decode cX2_count 86 = .ok (.ireturn, 1) := by decide +kernel
theorem dX2_count_87 : decode cX2_count 87 = .ok (.aload_n 0, 1) := by decide +kernel
theorem dX2_count_88 : decode cX2_count 88 = .ok (.getfield 21, 3) := by decide +kernel
theorem dX2_count_91 : decode cX2_count 91 = .ok (.aload_n 0, 1) := by decide +kernel
theorem dX2_count_92 : decode cX2_count 92 = .ok (.getfield 21, 3) := by decide +kernel
theorem dX2_count_95 : decode cX2_count 95 = .ok (.getfield 111, 3) := by decide +kernel
theorem dX2_count_98 : decode cX2_count 98 = .ok (.invokevirtual 151, 3) := by decide +kernel
theorem dX2_count_101 : decode cX2_count 101 = .ok (.ireturn, 1) := by decide +kernel
theorem dX2_count_102 : decode cX2_count 102 = .ok (.bipush (-2), 2) := by decide +kernel
theorem dX2_count_104 : decode cX2_count 104 = .ok (.ireturn, 1) := by decide +kernel
theorem dX2_asNumber_0 : decode cX2_asNumber 0 = .ok (.iload_n 0, 1) := by decide +kernel
theorem dX2_asNumber_1 : decode cX2_asNumber 1 = .ok (.ifCond .eq 7, 3) := by decide +kernel
theorem dX2_asNumber_4 : decode cX2_asNumber 4 = .ok (.iconst 1, 1) := by decide +kernel
theorem dX2_asNumber_5 : decode cX2_asNumber 5 = .ok (.goto 4, 3) := by decide +kernel
theorem dX2_asNumber_8 : decode cX2_asNumber 8 = .ok (.iconst 0, 1) := by decide +kernel
theorem dX2_asNumber_9 : decode cX2_asNumber 9 = .ok (.ireturn, 1) := by decide +kernel
theorem dX2_isRingSize_0 : decode cX2_isRingSize 0 = .ok (.iload_n 0, 1) := by decide +kernel
theorem dX2_isRingSize_1 : decode cX2_isRingSize 1 = .ok (.iconst 1, 1) := by decide +kernel
theorem dX2_isRingSize_2 : decode cX2_isRingSize 2 = .ok (.if_icmp .lt 13, 3) := by decide +kernel
theorem dX2_isRingSize_5 : decode cX2_isRingSize 5 = .ok (.iload_n 0, 1) := by decide +kernel
theorem dX2_isRingSize_6 : decode cX2_isRingSize 6 = .ok (.bipush 60, 2) := by decide +kernel
theorem dX2_isRingSize_8 : decode cX2_isRingSize 8 = .ok (.if_icmp .gt 7, 3) := by decide +kernel
theorem dX2_isRingSize_11 : decode cX2_isRingSize 11 = .ok (.iconst 1, 1) := by decide +kernel
theorem dX2_isRingSize_12 : decode cX2_isRingSize 12 = .ok (.goto 4, 3) := by decide +kernel
theorem dX2_isRingSize_15 : decode cX2_isRingSize 15 = .ok (.iconst 0, 1) := by decide +kernel
theorem dX2_isRingSize_16 : decode cX2_isRingSize 16 = .ok (.ireturn, 1) := by decide +kernel
theorem dX2_endOfGaps_0 : decode cX2_endOfGaps 0 = .ok (.bipush 61, 2) := by decide +kernel
theorem dX2_endOfGaps_2 : decode cX2_endOfGaps 2 = .ok (.istore_n 2, 1) := by decide +kernel
theorem dX2_endOfGaps_3 : decode cX2_endOfGaps 3 = .ok (.iload_n 2, 1) := by decide +kernel
theorem dX2_endOfGaps_4 : decode cX2_endOfGaps 4 = .ok (.ifCond .le 21, 3) := by decide +kernel
theorem dX2_endOfGaps_7 : decode cX2_endOfGaps 7 = .ok (.lload_n 0, 1) := by decide +kernel
theorem dX2_endOfGaps_8 : decode cX2_endOfGaps 8 = .ok (.iload_n 2, 1) := by decide +kernel
theorem dX2_endOfGaps_9 : decode cX2_endOfGaps 9 = .ok (.iconst 1, 1) := by decide +kernel
theorem dX2_endOfGaps_10 : decode cX2_endOfGaps 10 = .ok (.isub, 1) := by decide +kernel
theorem dX2_endOfGaps_11 : decode cX2_endOfGaps 11 = .ok (.lshr, 1) := by decide +kernel
theorem dX2_endOfGaps_12 : decode cX2_endOfGaps 12 = .ok (.lconst 1, 1) := by decide +kernel
theorem dX2_endOfGaps_13 : decode cX2_endOfGaps 13 = .ok (.land, 1) := by decide +kernel
theorem dX2_endOfGaps_14 : decode cX2_endOfGaps 14 = .ok (.lconst 1, 1) := by decide +kernel
theorem dX2_endOfGaps_15 : decode cX2_endOfGaps 15 = .ok (.lcmp, 1) := by decide +kernel
theorem dX2_endOfGaps_16 : decode cX2_endOfGaps 16 = .ok (.ifCond .ne 9, 3) := by decide +kernel
theorem dX2_endOfGaps_19 : decode cX2_endOfGaps 19 = .ok (.iinc 2 (-1), 3) := by decide +kernel
theorem dX2_endOfGaps_22 : decode cX2_endOfGaps 22 = .ok (.goto (-19), 3) := by decide +kernel
theorem dX2_endOfGaps_25 : decode cX2_endOfGaps 25 = .ok (.iload_n 2, 1) := by decide +kernel
theorem dX2_endOfGaps_26 : decode cX2_endOfGaps 26 = .ok (.ireturn, 1) := by decide +kernel
set_option maxRecDepth 20000 in
theorem ggX3_init_X3_begin : GoodIn wsX3_init wsX3_begin := goodIn_r _ [18, 19, 5, 12, 25, 26, 27, 28, 29, 30, 31, 32, 33] (by decide +kernel) (by decide +kernel)
set_option maxRecDepth 20000 in
theorem gX3_init_X3_begin : GoodIn wsX3_init (wsV RX3 33 RX3 yX3_begin wsX3_begin) := goodIn_app (goodIn_of _ (by decide +kernel)) ggX3_init_X3_begin
set_option maxRecDepth 20000 in
theorem ggX3_init_X3_lay : GoodIn wsX3_init wsX3_lay := goodIn_r _ [23, 24, 12, 13, 25, 26, 27, 28, 29, 30, 31, 32, 33] (by decide +kernel) (by decide +kernel)
set_option maxRecDepth 20000 in
theorem gX3_init_X3_lay : GoodIn wsX3_init (wsV RX3 37 RX3 yX3_lay wsX3_lay) := goodIn_app (goodIn_of _ (by decide +kernel)) ggX3_init_X3_lay
theorem dX3_init_0 : decode cX3_init 0 = .ok (.aload_n 0, 1) := by decide +kernel
theorem dX3_init_1 : decode cX3_init 1 = .ok (.invokespecial 1, 3) := by decide +kernel
theorem dX3_init_4 : decode cX3_init 4 = .ok (.aload_n 0, 1) := by decide +kernel
theorem dX3_init_5 : decode cX3_init 5 = .ok (.bipush 36, 2) := by decide +kernel
theorem dX3_init_7 : decode cX3_init 7 = .ok (.newarray .boolean, 2) := by decide +kernel
theorem dX3_init_9 : decode cX3_init 9 = .ok (.putfield 7, 3) := by decide +kernel
theorem dX3_init_12 : decode cX3_init 12 = .ok (.aload_n 0, 1) := by decide +kernel
theorem dX3_init_13 : decode cX3_init 13 = .ok (.bipush 61, 2) := by decide +kernel
theorem dX3_init_15 : decode cX3_init 15 = .ok (.newarray .long, 2) := by decide +kernel
theorem dX3_init_17 : decode cX3_init 17 = .ok (.putfield 13, 3) := by decide +kernel
theorem dX3_init_20 : decode cX3_init 20 = .ok (.aload_n 0, 1) := by decide +kernel
theorem dX3_init_21 : decode cX3_init 21 = .ok (.bipush 6, 2) := by decide +kernel
theorem dX3_init_23 : decode cX3_init 23 = .ok (.newarray .long, 2) := by decide +kernel
theorem dX3_init_25 : decode cX3_init 25 = .ok (.putfield 17, 3) := by decide +kernel
theorem dX3_init_28 : decode cX3_init 28 = .ok (.aload_n 0, 1) := by decide +kernel
theorem dX3_init_29 : decode cX3_init 29 = .ok (.bipush 6, 2) := by decide +kernel
theorem dX3_init_31 : decode cX3_init 31 = .ok (.newarray .long, 2) := by decide +kernel
theorem dX3_init_33 : decode cX3_init 33 = .ok (.putfield 20, 3) := by decide +kernel
theorem dX3_init_36 : decode cX3_init 36 = .ok (.aload_n 0, 1) := by decide +kernel
theorem dX3_init_37 : decode cX3_init 37 = .ok (.bipush 60, 2) := by decide +kernel
theorem dX3_init_39 : decode cX3_init 39 = .ok (.newarray .int, 2) := by decide +kernel
theorem dX3_init_41 : decode cX3_init 41 = .ok (.putfield 23, 3) := by decide +kernel
theorem dX3_init_44 : decode cX3_init 44 = .ok (.aload_n 0, 1) := by decide +kernel
theorem dX3_init_45 : decode cX3_init 45 = .ok (.bipush 60, 2) := by decide +kernel
theorem dX3_init_47 : decode cX3_init 47 = .ok (.newarray .int, 2) := by decide +kernel
theorem dX3_init_49 : decode cX3_init 49 = .ok (.putfield 27, 3) := by decide +kernel
theorem dX3_init_52 : decode cX3_init 52 = .ok (.aload_n 0, 1) := by decide +kernel
theorem dX3_init_53 : decode cX3_init 53 = .ok (.bipush 60, 2) := by decide +kernel
theorem dX3_init_55 : decode cX3_init 55 = .ok (.newarray .int, 2) := by decide +kernel
theorem dX3_init_57 : decode cX3_init 57 = .ok (.putfield 30, 3) := by decide +kernel
theorem dX3_init_60 : decode cX3_init 60 = .ok (.aload_n 0, 1) := by decide +kernel
theorem dX3_init_61 : decode cX3_init 61 = .ok (.iconst 3, 1) := by decide +kernel
theorem dX3_init_62 : decode cX3_init 62 = .ok (.invokevirtual 33, 3) := by decide +kernel
theorem dX3_init_65 : decode cX3_init 65 = .ok (.aload_n 0, 1) := by decide +kernel
theorem dX3_init_66 : decode cX3_init 66 = .ok (.iconst 3, 1) := by decide +kernel
theorem dX3_init_67 : decode cX3_init 67 = .ok (.invokevirtual 37, 3) := by decide +kernel
theorem dX3_init_70 : decode cX3_init 70 = .ok (.return_, 1) := by decide +kernel
theorem dX3_in_0 : decode cX3_in 0 = .ok (.iload_n 0, 1) := by decide +kernel
theorem dX3_in_1 : decode cX3_in 1 = .ok (.iload_n 1, 1) := by decide +kernel
theorem dX3_in_2 : decode cX3_in 2 = .ok (.if_icmp .lt 12, 3) := by decide +kernel
theorem dX3_in_5 : decode cX3_in 5 = .ok (.iload_n 0, 1) := by decide +kernel
theorem dX3_in_6 : decode cX3_in 6 = .ok (.iload_n 2, 1) := by decide +kernel
theorem dX3_in_7 : decode cX3_in 7 = .ok (.if_icmp .gt 7, 3) := by decide +kernel
theorem dX3_in_10 : decode cX3_in 10 = .ok (.iconst 1, 1) := by decide +kernel
theorem dX3_in_11 : decode cX3_in 11 = .ok (.goto 4, 3) := by decide +kernel
theorem dX3_in_14 : decode cX3_in 14 = .ok (.iconst 0, 1) := by decide +kernel
theorem dX3_in_15 : decode cX3_in 15 = .ok (.ireturn, 1) := by decide +kernel
set_option maxRecDepth 20000 in
theorem ggX3_isLabel_X3_in : GoodIn wsX3_isLabel wsX3_in := goodIn_r _ [5] (by decide +kernel) (by decide +kernel)
set_option maxRecDepth 20000 in
theorem gX3_isLabel_X3_in : GoodIn wsX3_isLabel (va_wsS RX3 44 yX3_in wsX3_in) := goodIn_app (goodIn_of _ (by decide +kernel)) ggX3_isLabel_X3_in
theorem dX3_isLabel_0 : decode cX3_isLabel 0 = .ok (.iload_n 1, 1) := by decide +kernel
theorem dX3_isLabel_1 : decode cX3_isLabel 1 = .ok (.iconst 0, 1) := by decide +kernel
theorem dX3_isLabel_2 : decode cX3_isLabel 2 = .ok (.aload_n 0, 1) := by decide +kernel
theorem dX3_isLabel_3 : decode cX3_isLabel 3 = .ok (.getfield 40, 3) := by decide +kernel
theorem dX3_isLabel_6 : decode cX3_isLabel 6 = .ok (.iconst 1, 1) := by decide +kernel
theorem dX3_isLabel_7 : decode cX3_isLabel 7 = .ok (.isub, 1) := by decide +kernel
theorem dX3_isLabel_8 : decode cX3_isLabel 8 = .ok (.invokestatic 44, 3) := by decide +kernel
theorem dX3_isLabel_11 : decode cX3_isLabel 11 = .ok (.ireturn, 1) := by decide +kernel
theorem dX3_begin_0 : decode cX3_begin 0 = .ok (.aload_n 0, 1) := by decide +kernel
theorem dX3_begin_1 : decode cX3_begin 1 = .ok (.iload_n 1, 1) := by decide +kernel
theorem dX3_begin_2 : decode cX3_begin 2 = .ok (.putfield 40, 3) := by decide +kernel
theorem dX3_begin_5 : decode cX3_begin 5 = .ok (.iconst 0, 1) := by decide +kernel
theorem dX3_begin_6 : decode cX3_begin 6 = .ok (.istore_n 2, 1) := by decide +kernel
theorem dX3_begin_7 : decode cX3_begin 7 = .ok (.iload_n 2, 1) := by decide +kernel
theorem dX3_begin_8 : decode cX3_begin 8 = .ok (.bipush 36, 2) := by decide +kernel
theorem dX3_begin_10 : decode cX3_begin 10 = .ok (.if_icmp .ge 47, 3) := by decide +kernel
theorem dX3_begin_13 : decode cX3_begin 13 = .ok (.aload_n 0, 1) := by decide +kernel
theorem dX3_begin_14 : decode cX3_begin 14 = .ok (.getfield 7, 3) := by decide +kernel
theorem dX3_begin_17 : decode cX3_begin 17 = .ok (.iload_n 2, 1) := by decide +kernel
theorem dX3_begin_18 : decode cX3_begin 18 = .ok (.iload_n 2, 1) := by decide +kernel
theorem dX3_begin_19 : decode cX3_begin 19 = .ok (.bipush 6, 2) := by decide +kernel
theorem dX3_begin_21 : decode cX3_begin 21 = .ok (.idiv, 1) := by decide +kernel
theorem dX3_begin_22 : decode cX3_begin 22 = .ok (.iload_n 2, 1) := by decide +kernel
theorem dX3_begin_23 : decode cX3_begin 23 = .ok (.bipush 6, 2) := by decide +kernel
theorem dX3_begin_25 : decode cX3_begin 25 = .ok (.irem, 1) := by decide +kernel
theorem dX3_begin_26 : decode cX3_begin 26 = .ok (.if_icmp .eq 23, 3) := by decide +kernel
theorem dX3_begin_29 : decode cX3_begin 29 = .ok (.iload_n 2, 1) := by decide +kernel
theorem dX3_begin_30 : decode cX3_begin 30 = .ok (.bipush 6, 2) := by decide +kernel
theorem dX3_begin_32 : decode cX3_begin 32 = .ok (.idiv, 1) := by decide +kernel
theorem dX3_begin_33 : decode cX3_begin 33 = .ok (.iload_n 1, 1) := by decide +kernel
theorem dX3_begin_34 : decode cX3_begin 34 = .ok (.if_icmp .ge 15, 3) := by decide +kernel
theorem dX3_begin_37 : decode cX3_begin 37 = .ok (.iload_n 2, 1) := by decide +kernel
theorem dX3_begin_38 : decode cX3_begin 38 = .ok (.bipush 6, 2) := by decide +kernel
theorem dX3_begin_40 : decode cX3_begin 40 = .ok (.irem, 1) := by decide +kernel
theorem dX3_begin_41 : decode cX3_begin 41 = .ok (.iload_n 1, 1) := by decide +kernel
theorem dX3_begin_42 : decode cX3_begin 42 = .ok (.if_icmp .ge 7, 3) := by decide +kernel
theorem dX3_begin_45 : decode cX3_begin 45 = .ok (.iconst 1, 1) := by decide +kernel
theorem dX3_begin_46 : decode cX3_begin 46 = .ok (.goto 4, 3) := by decide +kernel
theorem dX3_begin_49 : decode cX3_begin 49 = .ok (.iconst 0, 1) := by decide +kernel
theorem dX3_begin_50 : decode cX3_begin 50 = .ok (.bastore, 1) := by decide +kernel
theorem dX3_begin_51 : decode cX3_begin 51 = .ok (.iinc 2 1, 3) := by decide +kernel
theorem dX3_begin_54 : decode cX3_begin 54 = .ok (.goto (-47), 3) := by decide +kernel
theorem dX3_begin_57 : decode cX3_begin 57 = .ok (.iconst 0, 1) := by decide +kernel
theorem dX3_begin_58 : decode cX3_begin 58 = .ok (.istore_n 2, 1) := by decide +kernel
theorem dX3_begin_59 : decode cX3_begin 59 = .ok (.iload_n 2, 1) := by decide +kernel
theorem dX3_begin_60 : decode cX3_begin 60 = .ok (.bipush 60, 2) := by decide +kernel
theorem dX3_begin_62 : decode cX3_begin 62 = .ok (.if_icmp .ge 16, 3) := by decide +kernel
theorem dX3_begin_65 : decode cX3_begin 65 = .ok (.aload_n 0, 1) := by decide +kernel
theorem dX3_begin_66 : decode cX3_begin 66 = .ok (.getfield 27, 3) := by decide +kernel
theorem dX3_begin_69 : decode cX3_begin 69 = .ok (.iload_n 2, 1) := by decide +kernel
theorem dX3_begin_70 : decode cX3_begin 70 = .ok (.iconst 0, 1) := by decide +kernel
theorem dX3_begin_71 : decode cX3_begin 71 = .ok (.iastore, 1) := by decide +kernel
theorem dX3_begin_72 : decode cX3_begin 72 = .ok (.iinc 2 1, 3) := by decide +kernel
theorem dX3_begin_75 : decode cX3_begin 75 = .ok (.goto (-16), 3) := by decide +kernel
theorem dX3_begin_78 : decode cX3_begin 78 = .ok (.return_, 1) := by decide +kernel
set_option maxRecDepth 20000 in
theorem ggX3_labels_X3_in : GoodIn wsX3_labels wsX3_in := goodIn_r _ [5] (by decide +kernel) (by decide +kernel)
set_option maxRecDepth 20000 in
theorem gX3_labels_X3_in : GoodIn wsX3_labels (va_wsS RX3 44 yX3_in wsX3_in) := goodIn_app (goodIn_of _ (by decide +kernel)) ggX3_labels_X3_in
set_option maxRecDepth 20000 in
theorem ggX3_labels_X3_begin : GoodIn wsX3_labels wsX3_begin := goodIn_r _ [9, 1, 10, 11, 12, 13, 14, 15, 16, 17, 18, 19, 20] (by decide +kernel) (by decide +kernel)
set_option maxRecDepth 20000 in
theorem gX3_labels_X3_begin : GoodIn wsX3_labels (wsV RX3 33 RX3 yX3_begin wsX3_begin) := goodIn_app (goodIn_of _ (by decide +kernel)) ggX3_labels_X3_begin
theorem dX3_labels_0 : decode cX3_labels 0 = .ok (.iload_n 1, 1) := by decide +kernel
theorem dX3_labels_1 : decode cX3_labels 1 = .ok (.iconst 1, 1) := by decide +kernel
theorem dX3_labels_2 : decode cX3_labels 2 = .ok (.bipush 6, 2) := by decide +kernel
theorem dX3_labels_4 : decode cX3_labels 4 = .ok (.invokestatic 44, 3) := by decide +kernel
theorem dX3_labels_7 : decode cX3_labels 7 = .ok (.ifCond .ne 6, 3) := by decide +kernel
theorem dX3_labels_10 : decode cX3_labels 10 = .ok (.bipush (-2), 2) := by decide +kernel
theorem dX3_labels_12 : decode cX3_labels 12 = .ok (.ireturn, 1) := by decide +kernel
theorem dX3_labels_13 : decode cX3_labels 13 = .ok (.aload_n 0, 1) := by decide +kernel
theorem dX3_labels_14 : decode cX3_labels 14 = .ok (.getfield 40, 3) := by decide +kernel
theorem dX3_labels_17 : decode cX3_labels 17 = .ok (.istore_n 2, 1) := by decide +kernel
theorem dX3_labels_18 : decode cX3_labels 18 = .ok (.aload_n 0, 1) := by decide +kernel
theorem dX3_labels_19 : decode cX3_labels 19 = .ok (.iload_n 1, 1) := by decide +kernel
theorem dX3_labels_20 : decode cX3_labels 20 = .ok (.invokevirtual 33, 3) := by decide +kernel
theorem dX3_labels_23 : decode cX3_labels 23 = .ok (.iload_n 2, 1) := by decide +kernel
theorem dX3_labels_24 : decode cX3_labels 24 = .ok (.ireturn, 1) := by decide +kernel
set_option maxRecDepth 20000 in
theorem ggX3_allow_X3_isLabel : GoodIn wsX3_allow wsX3_isLabel := goodIn_r _ [6, 7, 8, 9, 5, 10, 11, 12, 13, 14, 15, 16, 17, 18, 19] (by decide +kernel) (by decide +kernel)
set_option maxRecDepth 20000 in
theorem gX3_allow_X3_isLabel : GoodIn wsX3_allow (wsV RX3 48 RX3 yX3_isLabel wsX3_isLabel) := goodIn_app (goodIn_of _ (by decide +kernel)) ggX3_allow_X3_isLabel
theorem dX3_allow_0 : decode cX3_allow 0 = .ok (.aload_n 0, 1) := by decide +kernel
theorem dX3_allow_1 : decode cX3_allow 1 = .ok (.iload_n 1, 1) := by decide +kernel
theorem dX3_allow_2 : decode cX3_allow 2 = .ok (.invokevirtual 48, 3) := by decide +kernel
theorem dX3_allow_5 : decode cX3_allow 5 = .ok (.ifCond .eq 11, 3) := by decide +kernel
theorem dX3_allow_8 : decode cX3_allow 8 = .ok (.aload_n 0, 1) := by decide +kernel
theorem dX3_allow_9 : decode cX3_allow 9 = .ok (.iload_n 2, 1) := by decide +kernel
theorem dX3_allow_10 : decode cX3_allow 10 = .ok (.invokevirtual 48, 3) := by decide +kernel
theorem dX3_allow_13 : decode cX3_allow 13 = .ok (.ifCond .ne 5, 3) := by decide +kernel
theorem dX3_allow_16 : decode cX3_allow 16 = .ok (.iconst (-1), 1) := by decide +kernel
theorem dX3_allow_17 : decode cX3_allow 17 = .ok (.ireturn, 1) := by decide +kernel
theorem dX3_allow_18 : decode cX3_allow 18 = .ok (.aload_n 0, 1) := by decide +kernel
theorem dX3_allow_19 : decode cX3_allow 19 = .ok (.getfield 7, 3) := by decide +kernel
theorem dX3_allow_22 : decode cX3_allow 22 = .ok (.bipush 6, 2) := by decide +kernel
theorem dX3_allow_24 : decode cX3_allow 24 = .ok (.iload_n 1, 1) := by decide +kernel
theorem dX3_allow_25 : decode cX3_allow 25 = .ok (.imul, 1) := by decide +kernel
theorem dX3_allow_26 : decode cX3_allow 26 = .ok (.iload_n 2, 1) := by decide +kernel
theorem dX3_allow_27 : decode cX3_allow 27 = .ok (.iadd, 1) := by decide +kernel
theorem dX3_allow_28 : decode cX3_allow 28 = .ok (.baload, 1) := by decide +kernel
theorem dX3_allow_29 : decode cX3_allow 29 = .ok (.ifCond .eq 7, 3) := by decide +kernel
theorem dX3_allow_32 : decode cX3_allow 32 = .ok (.iconst 1, 1) := by decide +kernel
theorem dX3_allow_33 : decode cX3_allow 33 = .ok (.goto 4, 3) := by decide +kernel
theorem dX3_allow_36 : decode cX3_allow 36 = .ok (.iconst 0, 1) := by decide +kernel
theorem dX3_allow_37 : decode cX3_allow 37 = .ok (.istore 4, 2) := by decide +kernel
theorem dX3_allow_39 : decode cX3_allow 39 = .ok (.aload_n 0, 1) := by decide +kernel
theorem dX3_allow_40 : decode cX3_allow 40 = .ok (.getfield 7, 3) := by decide +kernel
theorem dX3_allow_43 : decode cX3_allow 43 = .ok (.bipush 6, 2) := by decide +kernel
theorem dX3_allow_45 : decode cX3_allow 45 = .ok (.iload_n 1, 1) := by decide +kernel
theorem dX3_allow_46 : decode cX3_allow 46 = .ok (.imul, 1) := by decide +kernel
theorem dX3_allow_47 : decode cX3_allow 47 = .ok (.iload_n 2, 1) := by decide +kernel
theorem dX3_allow_48 : decode cX3_allow 48 = .ok (.iadd, 1) := by decide +kernel
theorem dX3_allow_49 : decode cX3_allow 49 = .ok (.iload_n 3, 1) := by decide +kernel
theorem dX3_allow_50 : decode cX3_allow 50 = .ok (.bastore, 1) := by decide +kernel
theorem dX3_allow_51 : decode cX3_allow 51 = .ok (.iload 4, 2) := by decide +kernel
theorem dX3_allow_53 : decode cX3_allow 53 = .ok (.ireturn, 1) := by decide +kernel
set_option maxRecDepth 20000 in
theorem ggX3_may_X3_isLabel : GoodIn wsX3_may wsX3_isLabel := goodIn_r _ [6, 7, 8, 9, 5, 10, 11, 12, 13, 14, 15, 16, 17, 18, 19] (by decide +kernel) (by decide +kernel)
set_option maxRecDepth 20000 in
theorem gX3_may_X3_isLabel : GoodIn wsX3_may (wsV RX3 48 RX3 yX3_isLabel wsX3_isLabel) := goodIn_app (goodIn_of _ (by decide +kernel)) ggX3_may_X3_isLabel
theorem dX3_may_0 : decode cX3_may 0 = .ok (.aload_n 0, 1) := by decide +kernel
theorem dX3_may_1 : decode cX3_may 1 = .ok (.iload_n 1, 1) := by decide +kernel
theorem dX3_may_2 : decode cX3_may 2 = .ok (.invokevirtual 48, 3) := by decide +kernel
theorem dX3_may_5 : decode cX3_may 5 = .ok (.ifCond .eq 11, 3) := by decide +kernel
theorem dX3_may_8 : decode cX3_may 8 = .ok (.aload_n 0, 1) := by decide +kernel
theorem dX3_may_9 : decode cX3_may 9 = .ok (.iload_n 2, 1) := by decide +kernel
theorem dX3_may_10 : decode cX3_may 10 = .ok (.invokevirtual 48, 3) := by decide +kernel
theorem dX3_may_13 : decode cX3_may 13 = .ok (.ifCond .ne 7, 3) := by decide +kernel
theorem dX3_may_16 : decode cX3_may 16 = .ok (.iconst (-1), 1) := by decide +kernel
theorem dX3_may_17 : decode cX3_may 17 = .ok (.goto 22, 3) := by decide +kernel
theorem dX3_may_20 : decode cX3_may 20 = .ok (.aload_n 0, 1) := by decide +kernel
theorem dX3_may_21 : decode cX3_may 21 = .ok (.getfield 7, 3) := by decide +kernel
theorem dX3_may_24 : decode cX3_may 24 = .ok (.bipush 6, 2) := by decide +kernel
theorem dX3_may_26 : decode cX3_may 26 = .ok (.iload_n 1, 1) := by decide +kernel
theorem dX3_may_27 : decode cX3_may 27 = .ok (.imul, 1) := by decide +kernel
theorem dX3_may_28 : decode cX3_may 28 = .ok (.iload_n 2, 1) := by decide +kernel
theorem dX3_may_29 : decode cX3_may 29 = .ok (.iadd, 1) := by decide +kernel
theorem dX3_may_30 : decode cX3_may 30 = .ok (.baload, 1) := by decide +kernel
theorem dX3_may_31 : decode cX3_may 31 = .ok (.ifCond .eq 7, 3) := by decide +kernel
theorem dX3_may_34 : decode cX3_may 34 = .ok (.iconst 1, 1) := by decide +kernel
theorem dX3_may_35 : decode cX3_may 35 = .ok (.goto 4, 3) := by decide +kernel
theorem dX3_may_38 : decode cX3_may 38 = .ok (.iconst 0, 1) := by decide +kernel
theorem dX3_may_39 : decode cX3_may 39 = .ok (.ireturn, 1) := by decide +kernel
theorem dX3_layLeads_0 : decode cX3_layLeads 0 = .ok (.aload_n 0, 1) := by decide +kernel
theorem dX3_layLeads_1 : decode cX3_layLeads 1 = .ok (.getfield 13, 3) := by decide +kernel
theorem dX3_layLeads_4 : decode cX3_layLeads 4 = .ok (.iconst 0, 1) := by decide +kernel
theorem dX3_layLeads_5 : decode cX3_layLeads 5 = .ok (.lconst 0, 1) := by decide +kernel
theorem dX3_layLeads_6 : decode cX3_layLeads 6 = .ok (.lastore, 1) := by decide +kernel
theorem dX3_layLeads_7 : decode cX3_layLeads 7 = .ok (.iconst 0, 1) := by decide +kernel
theorem dX3_layLeads_8 : decode cX3_layLeads 8 = .ok (.istore_n 1, 1) := by decide +kernel
theorem dX3_layLeads_9 : decode cX3_layLeads 9 = .ok (.iload_n 1, 1) := by decide +kernel
theorem dX3_layLeads_10 : decode cX3_layLeads 10 = .ok (.aload_n 0, 1) := by decide +kernel
theorem dX3_layLeads_11 : decode cX3_layLeads 11 = .ok (.getfield 40, 3) := by decide +kernel
theorem dX3_layLeads_14 : decode cX3_layLeads 14 = .ok (.if_icmp .ge 24, 3) := by decide +kernel
theorem dX3_layLeads_17 : decode cX3_layLeads 17 = .ok (.aload_n 0, 1) := by decide +kernel
theorem dX3_layLeads_18 : decode cX3_layLeads 18 = .ok (.getfield 13, 3) := by decide +kernel
theorem dX3_layLeads_21 : decode cX3_layLeads 21 = .ok (.iconst 0, 1) := by decide +kernel
theorem dX3_layLeads_22 : decode cX3_layLeads 22 = .ok (.dup2, 1) := by decide +kernel
theorem dX3_layLeads_23 : decode cX3_layLeads 23 = .ok (.laload, 1) := by decide +kernel
theorem dX3_layLeads_24 : decode cX3_layLeads 24 = .ok (.lconst 1, 1) := by decide +kernel
theorem dX3_layLeads_25 : decode cX3_layLeads 25 = .ok (.bipush 7, 2) := by decide +kernel
theorem dX3_layLeads_27 : decode cX3_layLeads 27 = .ok (.iload_n 1, 1) := by decide +kernel
theorem dX3_layLeads_28 : decode cX3_layLeads 28 = .ok (.imul, 1) := by decide +kernel
theorem dX3_layLeads_29 : decode cX3_layLeads 29 = .ok (.lshl, 1) := by decide +kernel
theorem dX3_layLeads_30 : decode cX3_layLeads 30 = .ok (.lor, 1) := by decide +kernel
theorem dX3_layLeads_31 : decode cX3_layLeads 31 = .ok (.lastore, 1) := by decide +kernel
theorem dX3_layLeads_32 : decode cX3_layLeads 32 = .ok (.iinc 1 1, 3) := by decide +kernel
theorem dX3_layLeads_35 : decode cX3_layLeads 35 = .ok (.goto (-26), 3) := by decide +kernel
theorem dX3_layLeads_38 : decode cX3_layLeads 38 = .ok (.iconst 1, 1) := by decide +kernel
theorem dX3_layLeads_39 : decode cX3_layLeads 39 = .ok (.istore_n 1, 1) := by decide +kernel
theorem dX3_layLeads_40 : decode cX3_layLeads 40 = .ok (.iload_n 1, 1) := by decide +kernel
theorem dX3_layLeads_41 : decode cX3_layLeads 41 = .ok (.bipush 60, 2) := by decide +kernel
theorem dX3_layLeads_43 : decode cX3_layLeads 43 = .ok (.if_icmp .gt 76, 3) := by decide +kernel
theorem dX3_layLeads_46 : decode cX3_layLeads 46 = .ok (.aload_n 0, 1) := by decide +kernel
theorem dX3_layLeads_47 : decode cX3_layLeads 47 = .ok (.getfield 13, 3) := by decide +kernel
theorem dX3_layLeads_50 : decode cX3_layLeads 50 = .ok (.iload_n 1, 1) := by decide +kernel
theorem dX3_layLeads_51 : decode cX3_layLeads 51 = .ok (.lconst 0, 1) := by decide +kernel
theorem dX3_layLeads_52 : decode cX3_layLeads 52 = .ok (.lastore, 1) := by decide +kernel
theorem dX3_layLeads_53 : decode cX3_layLeads 53 = .ok (.iconst 0, 1) := by decide +kernel
theorem dX3_layLeads_54 : decode cX3_layLeads 54 = .ok (.istore_n 2, 1) := by decide +kernel
theorem dX3_layLeads_55 : decode cX3_layLeads 55 = .ok (.iload_n 2, 1) := by decide +kernel
theorem dX3_layLeads_56 : decode cX3_layLeads 56 = .ok (.bipush 36, 2) := by decide +kernel
theorem dX3_layLeads_58 : decode cX3_layLeads 58 = .ok (.if_icmp .ge 55, 3) := by decide +kernel
theorem dX3_layLeads_61 : decode cX3_layLeads 61 = .ok (.aload_n 0, 1) := by decide +kernel
theorem dX3_layLeads_62 : decode cX3_layLeads 62 = .ok (.getfield 7, 3) := by decide +kernel
theorem dX3_layLeads_65 : decode cX3_layLeads 65 = .ok (.iload_n 2, 1) := by decide +kernel
theorem dX3_layLeads_66 : decode cX3_layLeads 66 = .ok (.baload, 1) := by decide +kernel
theorem dX3_layLeads_67 : decode cX3_layLeads 67 = .ok (.ifCond .eq 40, 3) := by decide +kernel
theorem dX3_layLeads_70 : decode cX3_layLeads 70 = .ok (.aload_n 0, 1) := by decide +kernel
theorem dX3_layLeads_71 : decode cX3_layLeads 71 = .ok (.getfield 13, 3) := by decide +kernel
theorem dX3_layLeads_74 : decode cX3_layLeads 74 = .ok (.iload_n 1, 1) := by decide +kernel
theorem dX3_layLeads_75 : decode cX3_layLeads 75 = .ok (.dup2, 1) := by decide +kernel
theorem dX3_layLeads_76 : decode cX3_layLeads 76 = .ok (.laload, 1) := by decide +kernel
theorem dX3_layLeads_77 : decode cX3_layLeads 77 = .ok (.aload_n 0, 1) := by decide +kernel
theorem dX3_layLeads_78 : decode cX3_layLeads 78 = .ok (.getfield 13, 3) := by decide +kernel
theorem dX3_layLeads_81 : decode cX3_layLeads 81 = .ok (.iload_n 1, 1) := by decide +kernel
theorem dX3_layLeads_82 : decode cX3_layLeads 82 = .ok (.iconst 1, 1) := by decide +kernel
theorem dX3_layLeads_83 : decode cX3_layLeads 83 = .ok (.isub, 1) := by decide +kernel
theorem dX3_layLeads_84 : decode cX3_layLeads 84 = .ok (.laload, 1) := by decide +kernel
theorem dX3_layLeads_85 : decode cX3_layLeads 85 = .ok (.bipush 6, 2) := by decide +kernel
theorem dX3_layLeads_87 : decode cX3_layLeads 87 = .ok (.iload_n 2, 1) := by decide +kernel
theorem dX3_layLeads_88 : decode cX3_layLeads 88 = .ok (.bipush 6, 2) := by decide +kernel
theorem dX3_layLeads_90 : decode cX3_layLeads 90 = .ok (.irem, 1) := by decide +kernel
theorem dX3_layLeads_91 : decode cX3_layLeads 91 = .ok (.imul, 1) := by decide +kernel
theorem dX3_layLeads_92 : decode cX3_layLeads 92 = .ok (.lshr, 1) := by decide +kernel
theorem dX3_layLeads_93 : decode cX3_layLeads 93 = .ok (.ldc2_w 52, 3) := by decide +kernel
theorem dX3_layLeads_96 : decode cX3_layLeads 96 = .ok (.land, 1) := by decide +kernel
theorem dX3_layLeads_97 : decode cX3_layLeads 97 = .ok (.bipush 6, 2) := by decide +kernel
theorem dX3_layLeads_99 : decode cX3_layLeads 99 = .ok (.iload_n 2, 1) := by decide +kernel
theorem dX3_layLeads_100 : decode cX3_layLeads 100 = .ok (.bipush 6, 2) := by decide +kernel
theorem dX3_layLeads_102 : decode cX3_layLeads 102 = .ok (.idiv, 1) := by decide +kernel
theorem dX3_layLeads_103 : decode cX3_layLeads 103 = .ok (.imul, 1) := by decide +kernel
theorem dX3_layLeads_104 : decode cX3_layLeads 104 = .ok (.lshl, 1) := by decide +kernel
theorem dX3_layLeads_105 : decode cX3_layLeads 105 = .ok (.lor, 1) := by decide +kernel
theorem dX3_layLeads_106 : decode cX3_layLeads 106 = .ok (.lastore, 1) := by decide +kernel
theorem dX3_layLeads_107 : decode cX3_layLeads 107 = .ok (.iinc 2 1, 3) := by decide +kernel
theorem dX3_layLeads_110 : decode cX3_layLeads 110 = .ok (.goto (-55), 3) := by decide +kernel
theorem dX3_layLeads_113 : decode cX3_layLeads 113 = .ok (.iinc 1 1, 3) := by decide +kernel
theorem dX3_layLeads_116 : decode cX3_layLeads 116 = .ok (.goto (-76), 3) := by decide +kernel
theorem dX3_layLeads_119 : decode cX3_layLeads 119 = .ok (.return_, 1) := by decide +kernel
theorem dX3_isWalk_0 : decode cX3_isWalk 0 = .ok (.aload_n 0, 1) := by decide +kernel
theorem dX3_isWalk_1 : decode cX3_isWalk 1 = .ok (.getfield 13, 3) := by decide +kernel
theorem dX3_isWalk_4 : decode cX3_isWalk 4 = .ok (.iload_n 3, 1) := by decide +kernel
theorem dX3_isWalk_5 : decode cX3_isWalk 5 = .ok (.laload, 1) := by decide +kernel
theorem dX3_isWalk_6 : decode cX3_isWalk 6 = .ok (.bipush 6, 2) := by decide +kernel
theorem dX3_isWalk_8 : decode cX3_isWalk 8 = .ok (.iload_n 1, 1) := by decide +kernel
theorem dX3_isWalk_9 : decode cX3_isWalk 9 = .ok (.imul, 1) := by decide +kernel
theorem dX3_isWalk_10 : decode cX3_isWalk 10 = .ok (.iload_n 2, 1) := by decide +kernel
theorem dX3_isWalk_11 : decode cX3_isWalk 11 = .ok (.iadd, 1) := by decide +kernel
theorem dX3_isWalk_12 : decode cX3_isWalk 12 = .ok (.lshr, 1) := by decide +kernel
theorem dX3_isWalk_13 : decode cX3_isWalk 13 = .ok (.lconst 1, 1) := by decide +kernel
theorem dX3_isWalk_14 : decode cX3_isWalk 14 = .ok (.land, 1) := by decide +kernel
theorem dX3_isWalk_15 : decode cX3_isWalk 15 = .ok (.lconst 1, 1) := by decide +kernel
theorem dX3_isWalk_16 : decode cX3_isWalk 16 = .ok (.lcmp, 1) := by decide +kernel
theorem dX3_isWalk_17 : decode cX3_isWalk 17 = .ok (.ifCond .ne 7, 3) := by decide +kernel
theorem dX3_isWalk_20 : decode cX3_isWalk 20 = .ok (.iconst 1, 1) := by decide +kernel
theorem dX3_isWalk_21 : decode cX3_isWalk 21 = .ok (.goto 4, 3) := by decide +kernel
theorem dX3_isWalk_24 : decode cX3_isWalk 24 = .ok (.iconst 0, 1) := by decide +kernel
theorem dX3_isWalk_25 : decode cX3_isWalk 25 = .ok (.ireturn, 1) := by decide +kernel
set_option maxRecDepth 20000 in
theorem ggX3_layMany_X3_cut : GoodIn wsX3_layMany wsX3_cut := goodIn_r _ [7, 8] (by decide +kernel) (by decide +kernel)
set_option maxRecDepth 20000 in
theorem gX3_layMany_X3_cut : GoodIn wsX3_layMany (va_wsS RX3 54 yX3_cut wsX3_cut) := goodIn_app (goodIn_of _ (by decide +kernel)) ggX3_layMany_X3_cut
theorem dX3_layMany_0 : decode cX3_layMany 0 = .ok (.iconst 0, 1) := by decide +kernel
theorem dX3_layMany_1 : decode cX3_layMany 1 = .ok (.istore_n 3, 1) := by decide +kernel
theorem dX3_layMany_2 : decode cX3_layMany 2 = .ok (.iload_n 3, 1) := by decide +kernel
theorem dX3_layMany_3 : decode cX3_layMany 3 = .ok (.bipush 6, 2) := by decide +kernel
theorem dX3_layMany_5 : decode cX3_layMany 5 = .ok (.if_icmp .ge 25, 3) := by decide +kernel
theorem dX3_layMany_8 : decode cX3_layMany 8 = .ok (.aload_n 0, 1) := by decide +kernel
theorem dX3_layMany_9 : decode cX3_layMany 9 = .ok (.getfield 17, 3) := by decide +kernel
theorem dX3_layMany_12 : decode cX3_layMany 12 = .ok (.iload_n 3, 1) := by decide +kernel
theorem dX3_layMany_13 : decode cX3_layMany 13 = .ok (.iload_n 3, 1) := by decide +kernel
theorem dX3_layMany_14 : decode cX3_layMany 14 = .ok (.iload_n 1, 1) := by decide +kernel
theorem dX3_layMany_15 : decode cX3_layMany 15 = .ok (.if_icmp .ne 7, 3) := by decide +kernel
theorem dX3_layMany_18 : decode cX3_layMany 18 = .ok (.lconst 1, 1) := by decide +kernel
theorem dX3_layMany_19 : decode cX3_layMany 19 = .ok (.goto 4, 3) := by decide +kernel
theorem dX3_layMany_22 : decode cX3_layMany 22 = .ok (.lconst 0, 1) := by decide +kernel
theorem dX3_layMany_23 : decode cX3_layMany 23 = .ok (.lastore, 1) := by decide +kernel
theorem dX3_layMany_24 : decode cX3_layMany 24 = .ok (.iinc 3 1, 3) := by decide +kernel
theorem dX3_layMany_27 : decode cX3_layMany 27 = .ok (.goto (-25), 3) := by decide +kernel
theorem dX3_layMany_30 : decode cX3_layMany 30 = .ok (.iconst 0, 1) := by decide +kernel
theorem dX3_layMany_31 : decode cX3_layMany 31 = .ok (.istore_n 3, 1) := by decide +kernel
theorem dX3_layMany_32 : decode cX3_layMany 32 = .ok (.iload_n 3, 1) := by decide +kernel
theorem dX3_layMany_33 : decode cX3_layMany 33 = .ok (.iload_n 2, 1) := by decide +kernel
theorem dX3_layMany_34 : decode cX3_layMany 34 = .ok (.if_icmp .ge 130, 3) := by decide +kernel
theorem dX3_layMany_37 : decode cX3_layMany 37 = .ok (.iconst 0, 1) := by decide +kernel
theorem dX3_layMany_38 : decode cX3_layMany 38 = .ok (.istore 4, 2) := by decide +kernel
theorem dX3_layMany_40 : decode cX3_layMany 40 = .ok (.iload 4, 2) := by decide +kernel
theorem dX3_layMany_42 : decode cX3_layMany 42 = .ok (.bipush 6, 2) := by decide +kernel
theorem dX3_layMany_44 : decode cX3_layMany 44 = .ok (.if_icmp .ge 84, 3) := by decide +kernel
theorem dX3_layMany_47 : decode cX3_layMany 47 = .ok (.aload_n 0, 1) := by decide +kernel
theorem dX3_layMany_48 : decode cX3_layMany 48 = .ok (.getfield 20, 3) := by decide +kernel
theorem dX3_layMany_51 : decode cX3_layMany 51 = .ok (.iload 4, 2) := by decide +kernel
theorem dX3_layMany_53 : decode cX3_layMany 53 = .ok (.lconst 0, 1) := by decide +kernel
theorem dX3_layMany_54 : decode cX3_layMany 54 = .ok (.lastore, 1) := by decide +kernel
theorem dX3_layMany_55 : decode cX3_layMany 55 = .ok (.iconst 0, 1) := by decide +kernel
theorem dX3_layMany_56 : decode cX3_layMany 56 = .ok (.istore 5, 2) := by decide +kernel
theorem dX3_layMany_58 : decode cX3_layMany 58 = .ok (.iload 5, 2) := by decide +kernel
theorem dX3_layMany_60 : decode cX3_layMany 60 = .ok (.bipush 6, 2) := by decide +kernel
theorem dX3_layMany_62 : decode cX3_layMany 62 = .ok (.if_icmp .ge 60, 3) := by decide +kernel
theorem dX3_layMany_65 : decode cX3_layMany 65 = .ok (.aload_n 0, 1) := by decide +kernel
theorem dX3_layMany_66 : decode cX3_layMany 66 = .ok (.getfield 20, 3) := by decide +kernel
theorem dX3_layMany_69 : decode cX3_layMany 69 = .ok (.iload 4, 2) := by decide +kernel
theorem dX3_layMany_71 : decode cX3_layMany 71 = .ok (.aload_n 0, 1) := by decide +kernel
theorem dX3_layMany_72 : decode cX3_layMany 72 = .ok (.getfield 7, 3) := by decide +kernel
theorem dX3_layMany_75 : decode cX3_layMany 75 = .ok (.bipush 6, 2) := by decide +kernel
theorem dX3_layMany_77 : decode cX3_layMany 77 = .ok (.iload 5, 2) := by decide +kernel
theorem dX3_layMany_79 : decode cX3_layMany 79 = .ok (.imul, 1) := by decide +kernel
theorem dX3_layMany_80 : decode cX3_layMany 80 = .ok (.iload 4, 2) := by decide +kernel
theorem dX3_layMany_82 : decode cX3_layMany 82 = .ok (.iadd, 1) := by decide +kernel
theorem dX3_layMany_83 : decode cX3_layMany 83 = .ok (.baload, 1) := by decide +kernel
theorem dX3_layMany_84 : decode cX3_layMany 84 = .ok (.ifCond .eq 24, 3) := by decide +kernel
theorem dX3_layMany_87 : decode cX3_layMany 87 = .ok (.aload_n 0, 1) := by decide +kernel
theorem dX3_layMany_88 : decode cX3_layMany 88 = .ok (.getfield 20, 3) := by decide +kernel
theorem dX3_layMany_91 : decode cX3_layMany 91 = .ok (.iload 4, 2) := by decide +kernel
theorem dX3_layMany_93 : decode cX3_layMany 93 = .ok (.laload, 1) := by decide +kernel
theorem dX3_layMany_94 : decode cX3_layMany 94 = .ok (.aload_n 0, 1) := by decide +kernel
theorem dX3_layMany_95 : decode cX3_layMany 95 = .ok (.getfield 17, 3) := by decide +kernel
theorem dX3_layMany_98 : decode cX3_layMany 98 = .ok (.iload 5, 2) := by decide +kernel
theorem dX3_layMany_100 : decode cX3_layMany 100 = .ok (.laload, 1) := by decide +kernel
theorem dX3_layMany_101 : decode cX3_layMany 101 = .ok (.ladd, 1) := by decide +kernel
theorem dX3_layMany_102 : decode cX3_layMany 102 = .ok (.invokestatic 54, 3) := by decide +kernel
theorem dX3_layMany_105 : decode cX3_layMany 105 = .ok (.goto 10, 3) := by decide +kernel
theorem dX3_layMany_108 : decode cX3_layMany 108 = .ok (.aload_n 0, 1) := by decide +kernel
theorem dX3_layMany_109 : decode cX3_layMany 109 = .ok (.getfield 20, 3) := by decide +kernel
theorem dX3_layMany_112 : decode cX3_layMany 112 = .ok (.iload 4, 2) := by decide +kernel
theorem dX3_layMany_114 : decode cX3_layMany 114 = .ok (.laload, 1) := by decide +kernel
theorem dX3_layMany_115 : decode cX3_layMany 115 = .ok (.lastore, 1) := by decide +kernel
theorem dX3_layMany_116 : decode cX3_layMany 116 = .ok (.iinc 5 1, 3) := by decide +kernel
theorem dX3_layMany_119 : decode cX3_layMany 119 = .ok (.goto (-61), 3) := by decide +kernel
theorem dX3_layMany_122 : decode cX3_layMany 122 = .ok (.iinc 4 1, 3) := by decide +kernel
theorem dX3_layMany_125 : decode cX3_layMany 125 = .ok (.goto (-85), 3) := by decide +kernel
theorem dX3_layMany_128 : decode cX3_layMany 128 = .ok (.iconst 0, 1) := by decide +kernel
theorem dX3_layMany_129 : decode cX3_layMany 129 = .ok (.istore 4, 2) := by decide +kernel
theorem dX3_layMany_131 : decode cX3_layMany 131 = .ok (.iload 4, 2) := by decide +kernel
theorem dX3_layMany_133 : decode cX3_layMany 133 = .ok (.bipush 6, 2) := by decide +kernel
theorem dX3_layMany_135 : decode cX3_layMany 135 = .ok (.if_icmp .ge 23, 3) := by decide +kernel
theorem dX3_layMany_138 : decode cX3_layMany 138 = .ok (.aload_n 0, 1) := by decide +kernel
theorem dX3_layMany_139 : decode cX3_layMany 139 = .ok (.getfield 17, 3) := by decide +kernel
theorem dX3_layMany_142 : decode cX3_layMany 142 = .ok (.iload 4, 2) := by decide +kernel
theorem dX3_layMany_144 : decode cX3_layMany 144 = .ok (.aload_n 0, 1) := by decide +kernel
theorem dX3_layMany_145 : decode cX3_layMany 145 = .ok (.getfield 20, 3) := by decide +kernel
theorem dX3_layMany_148 : decode cX3_layMany 148 = .ok (.iload 4, 2) := by decide +kernel
theorem dX3_layMany_150 : decode cX3_layMany 150 = .ok (.laload, 1) := by decide +kernel
theorem dX3_layMany_151 : decode cX3_layMany 151 = .ok (.lastore, 1) := by decide +kernel
theorem dX3_layMany_152 : decode cX3_layMany 152 = .ok (.iinc 4 1, 3) := by decide +kernel
theorem dX3_layMany_155 : decode cX3_layMany 155 = .ok (.goto (-24), 3) := by decide +kernel
theorem dX3_layMany_158 : decode cX3_layMany 158 = .ok (.iinc 3 1, 3) := by decide +kernel
theorem dX3_layMany_161 : decode cX3_layMany 161 = .ok (.goto (-129), 3) := by decide +kernel
theorem dX3_layMany_164 : decode cX3_layMany 164 = .ok (.return_, 1) := by decide +kernel
theorem dX3_cut_0 : decode cX3_cut 0 = .ok (.lload_n 0, 1) := by decide +kernel
theorem dX3_cut_1 : decode cX3_cut 1 = .ok (.ldc2_w 58, 3) := by decide +kernel
theorem dX3_cut_4 : decode cX3_cut 4 = .ok (.lcmp, 1) := by decide +kernel
theorem dX3_cut_5 : decode cX3_cut 5 = .ok (.ifCond .le 9, 3) := by decide +kernel
theorem dX3_cut_8 : decode cX3_cut 8 = .ok (.ldc2_w 58, 3) := by decide +kernel
theorem dX3_cut_11 : decode cX3_cut 11 = .ok (.goto 4, 3) := by decide +kernel
theorem dX3_cut_14 : decode cX3_cut 14 = .ok (.lload_n 0, 1) := by decide +kernel
theorem dX3_cut_15 : decode cX3_cut 15 = .ok (.lreturn, 1) := by decide +kernel
