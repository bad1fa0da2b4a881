set_option maxRecDepth 20000 in
theorem ggX3_isRing_X3_in : GoodIn wsX3_isRing wsX3_in := goodIn_r _ [4] (by decide +kernel) (by decide +kernel)
set_option maxRecDepth 20000 in
theorem gX3_isRing_X3_in : GoodIn wsX3_isRing (va_wsS RX3 44 yX3_in wsX3_in) := goodIn_app (goodIn_of _ (by decide +kernel)) ggX3_isRing_X3_in
theorem dX3_isRing_0 : decode cX3_isRing 0 = .ok (.iload_n 0, 1) := by decide +kernel
theorem dX3_isRing_1 : decode cX3_isRing 1 = .ok (.iconst 1, 1) := by decide +kernel
theorem dX3_isRing_2 : decode cX3_isRing 2 = .ok (.bipush 60, 2) := by decide +kernel
theorem dX3_isRing_4 : decode cX3_isRing 4 = .ok (.invokestatic 44, 3) := by decide +kernel
theorem dX3_isRing_7 : decode cX3_isRing 7 = .ok (.ireturn, 1) := by decide +kernel
set_option maxRecDepth 20000 in
theorem ggX3_rings_X3_isRing : GoodIn wsX3_rings wsX3_isRing := goodIn_r _ [7, 8, 9, 6, 10] (by decide +kernel) (by decide +kernel)
set_option maxRecDepth 20000 in
theorem gX3_rings_X3_isRing : GoodIn wsX3_rings (va_wsS RX3 60 yX3_isRing wsX3_isRing) := goodIn_app (goodIn_of _ (by decide +kernel)) ggX3_rings_X3_isRing
set_option maxRecDepth 20000 in
theorem ggX3_rings_X3_layMany : GoodIn wsX3_rings wsX3_layMany := goodIn_r _ [14, 3, 15, 16, 17, 18, 6, 19, 20, 21, 22, 23, 24, 25, 26, 27, 28, 29] (by decide +kernel) (by decide +kernel)
set_option maxRecDepth 20000 in
theorem gX3_rings_X3_layMany : GoodIn wsX3_rings (wsV RX3 65 RX3 yX3_layMany wsX3_layMany) := goodIn_app (goodIn_of _ (by decide +kernel)) ggX3_rings_X3_layMany
set_option maxRecDepth 20000 in
theorem ggX3_rings_X3_cut : GoodIn wsX3_rings wsX3_cut := goodIn_r _ [19, 20] (by decide +kernel) (by decide +kernel)
set_option maxRecDepth 20000 in
theorem gX3_rings_X3_cut : GoodIn wsX3_rings (va_wsS RX3 54 yX3_cut wsX3_cut) := goodIn_app (goodIn_of _ (by decide +kernel)) ggX3_rings_X3_cut
theorem dX3_rings_0 : decode cX3_rings 0 = .ok (.iload_n 1, 1) := by decide +kernel
theorem dX3_rings_1 : decode cX3_rings 1 = .ok (.invokestatic 60, 3) := by decide +kernel
theorem dX3_rings_4 : decode cX3_rings 4 = .ok (.ifCond .ne 7, 3) := by decide +kernel
theorem dX3_rings_7 : decode cX3_rings 7 = .ok (.ldc2_w 63, 3) := by decide +kernel
theorem dX3_rings_10 : decode cX3_rings 10 = .ok (.lreturn, 1) := by decide +kernel
theorem dX3_rings_11 : decode cX3_rings 11 = .ok (.lconst 0, 1) := by decide +kernel
theorem dX3_rings_12 : decode cX3_rings 12 = .ok (.lstore_n 2, 1) := by decide +kernel
theorem dX3_rings_13 : decode cX3_rings 13 = .ok (.iconst 0, 1) := by decide +kernel
theorem dX3_rings_14 : decode cX3_rings 14 = .ok (.istore 4, 2) := by decide +kernel
theorem dX3_rings_16 : decode cX3_rings 16 = .ok (.iload 4, 2) := by decide +kernel
theorem dX3_rings_18 : decode cX3_rings 18 = .ok (.aload_n 0, 1) := by decide +kernel
theorem dX3_rings_19 : decode cX3_rings 19 = .ok (.getfield 40, 3) := by decide +kernel
theorem dX3_rings_22 : decode cX3_rings 22 = .ok (.if_icmp .ge 29, 3) := by decide +kernel
theorem dX3_rings_25 : decode cX3_rings 25 = .ok (.aload_n 0, 1) := by decide +kernel
theorem dX3_rings_26 : decode cX3_rings 26 = .ok (.iload 4, 2) := by decide +kernel
theorem dX3_rings_28 : decode cX3_rings 28 = .ok (.iload_n 1, 1) := by decide +kernel
theorem dX3_rings_29 : decode cX3_rings 29 = .ok (.invokevirtual 65, 3) := by decide +kernel
theorem dX3_rings_32 : decode cX3_rings 32 = .ok (.lload_n 2, 1) := by decide +kernel
theorem dX3_rings_33 : decode cX3_rings 33 = .ok (.aload_n 0, 1) := by decide +kernel
theorem dX3_rings_34 : decode cX3_rings 34 = .ok (.getfield 17, 3) := by decide +kernel
theorem dX3_rings_37 : decode cX3_rings 37 = .ok (.iload 4, 2) := by decide +kernel
theorem dX3_rings_39 : decode cX3_rings 39 = .ok (.laload, 1) := by decide +kernel
theorem dX3_rings_40 : decode cX3_rings 40 = .ok (.ladd, 1) := by decide +kernel
theorem dX3_rings_41 : decode cX3_rings 41 = .ok (.invokestatic 54, 3) := by decide +kernel
theorem dX3_rings_44 : decode cX3_rings 44 = .ok (.lstore_n 2, 1) := by decide +kernel
theorem dX3_rings_45 : decode cX3_rings 45 = .ok (.iinc 4 1, 3) := by decide +kernel
theorem dX3_rings_48 : decode cX3_rings 48 = .ok (.goto (-32), 3) := by decide +kernel
theorem dX3_rings_51 : decode cX3_rings 51 = .ok (.lload_n 2, 1) := by decide +kernel
theorem dX3_rings_52 : decode cX3_rings 52 = .ok (.lreturn, 1) := by decide +kernel
set_option maxRecDepth 20000 in
theorem ggX3_walks_X3_isLabel : GoodIn wsX3_walks wsX3_isLabel := goodIn_r _ [8, 9, 10, 11, 7, 12, 23, 24, 25, 26, 27, 28, 29, 30, 31] (by decide +kernel) (by decide +kernel)
set_option maxRecDepth 20000 in
theorem gX3_walks_X3_isLabel : GoodIn wsX3_walks (wsV RX3 48 RX3 yX3_isLabel wsX3_isLabel) := goodIn_app (goodIn_of _ (by decide +kernel)) ggX3_walks_X3_isLabel
set_option maxRecDepth 20000 in
theorem ggX3_walks_X3_in : GoodIn wsX3_walks wsX3_in := goodIn_r _ [12] (by decide +kernel) (by decide +kernel)
set_option maxRecDepth 20000 in
theorem gX3_walks_X3_in : GoodIn wsX3_walks (va_wsS RX3 44 yX3_in wsX3_in) := goodIn_app (goodIn_of _ (by decide +kernel)) ggX3_walks_X3_in
set_option maxRecDepth 20000 in
theorem ggX3_walks_X3_layMany : GoodIn wsX3_walks wsX3_layMany := goodIn_r _ [16, 3, 17, 18, 19, 20, 7, 21, 22, 23, 24, 25, 26, 27, 28, 29, 30, 31] (by decide +kernel) (by decide +kernel)
set_option maxRecDepth 20000 in
theorem gX3_walks_X3_layMany : GoodIn wsX3_walks (wsV RX3 65 RX3 yX3_layMany wsX3_layMany) := goodIn_app (goodIn_of _ (by decide +kernel)) ggX3_walks_X3_layMany
theorem dX3_walks_0 : decode cX3_walks 0 = .ok (.aload_n 0, 1) := by decide +kernel
theorem dX3_walks_1 : decode cX3_walks 1 = .ok (.iload_n 1, 1) := by decide +kernel
theorem dX3_walks_2 : decode cX3_walks 2 = .ok (.invokevirtual 48, 3) := by decide +kernel
theorem dX3_walks_5 : decode cX3_walks 5 = .ok (.ifCond .eq 11, 3) := by decide +kernel
theorem dX3_walks_8 : decode cX3_walks 8 = .ok (.aload_n 0, 1) := by decide +kernel
theorem dX3_walks_9 : decode cX3_walks 9 = .ok (.iload_n 2, 1) := by decide +kernel
theorem dX3_walks_10 : decode cX3_walks 10 = .ok (.invokevirtual 48, 3) := by decide +kernel
theorem dX3_walks_13 : decode cX3_walks 13 = .ok (.ifCond .ne 7, 3) := by decide +kernel
theorem dX3_walks_16 : decode cX3_walks 16 = .ok (.ldc2_w 69, 3) := by decide +kernel
theorem dX3_walks_19 : decode cX3_walks 19 = .ok (.lreturn, 1) := by decide +kernel
theorem dX3_walks_20 : decode cX3_walks 20 = .ok (.iload_n 3, 1) := by decide +kernel
theorem dX3_walks_21 : decode cX3_walks 21 = .ok (.iconst 0, 1) := by decide +kernel
theorem dX3_walks_22 : decode cX3_walks 22 = .ok (.bipush 60, 2) := by decide +kernel
theorem dX3_walks_24 : decode cX3_walks 24 = .ok (.invokestatic 44, 3) := by decide +kernel
theorem dX3_walks_27 : decode cX3_walks 27 = .ok (.ifCond .ne 7, 3) := by decide +kernel
theorem dX3_walks_30 : decode cX3_walks 30 = .ok (.ldc2_w 63, 3) := by decide +kernel
theorem dX3_walks_33 : decode cX3_walks 33 = .ok (.lreturn, 1) := by decide +kernel
theorem dX3_walks_34 : decode cX3_walks 34 = .ok (.aload_n 0, 1) := by decide +kernel
theorem dX3_walks_35 : decode cX3_walks 35 = .ok (.iload_n 1, 1) := by decide +kernel
theorem dX3_walks_36 : decode cX3_walks 36 = .ok (.iload_n 3, 1) := by decide +kernel
theorem dX3_walks_37 : decode cX3_walks 37 = .ok (.invokevirtual 65, 3) := by decide +kernel
theorem dX3_walks_40 : decode cX3_walks 40 = .ok (.aload_n 0, 1) := by decide +kernel
theorem dX3_walks_41 : decode cX3_walks 41 = .ok (.getfield 17, 3) := by decide +kernel
theorem dX3_walks_44 : decode cX3_walks 44 = .ok (.iload_n 2, 1) := by decide +kernel
theorem dX3_walks_45 : decode cX3_walks 45 = .ok (.laload, 1) := by decide +kernel
theorem dX3_walks_46 : decode cX3_walks 46 = .ok (.lreturn, 1) := by decide +kernel
set_option maxRecDepth 20000 in
theorem ggX3_next_X3_isWalk : GoodIn wsX3_next wsX3_isWalk := goodIn_r _ [7, 8, 9, 10, 11, 12, 13, 14, 15, 16, 17] (by decide +kernel) (by decide +kernel)
set_option maxRecDepth 20000 in
theorem gX3_next_X3_isWalk : GoodIn wsX3_next (wsV RX3 71 RX3 yX3_isWalk wsX3_isWalk) := goodIn_app (goodIn_of _ (by decide +kernel)) ggX3_next_X3_isWalk
theorem dX3_next_0 : decode cX3_next 0 = .ok (.iconst 0, 1) := by decide +kernel
theorem dX3_next_1 : decode cX3_next 1 = .ok (.istore 4, 2) := by decide +kernel
theorem dX3_next_3 : decode cX3_next 3 = .ok (.iload 4, 2) := by decide +kernel
theorem dX3_next_5 : decode cX3_next 5 = .ok (.aload_n 0, 1) := by decide +kernel
theorem dX3_next_6 : decode cX3_next 6 = .ok (.getfield 40, 3) := by decide +kernel
theorem dX3_next_9 : decode cX3_next 9 = .ok (.if_icmp .ge 35, 3) := by decide +kernel
theorem dX3_next_12 : decode cX3_next 12 = .ok (.aload_n 0, 1) := by decide +kernel
theorem dX3_next_13 : decode cX3_next 13 = .ok (.getfield 7, 3) := by decide +kernel
theorem dX3_next_16 : decode cX3_next 16 = .ok (.bipush 6, 2) := by decide +kernel
theorem dX3_next_18 : decode cX3_next 18 = .ok (.iload_n 1, 1) := by decide +kernel
theorem dX3_next_19 : decode cX3_next 19 = .ok (.imul, 1) := by decide +kernel
theorem dX3_next_20 : decode cX3_next 20 = .ok (.iload 4, 2) := by decide +kernel
theorem dX3_next_22 : decode cX3_next 22 = .ok (.iadd, 1) := by decide +kernel
theorem dX3_next_23 : decode cX3_next 23 = .ok (.baload, 1) := by decide +kernel
theorem dX3_next_24 : decode cX3_next 24 = .ok (.ifCond .eq 14, 3) := by decide +kernel
theorem dX3_next_27 : decode cX3_next 27 = .ok (.aload_n 0, 1) := by decide +kernel
theorem dX3_next_28 : decode cX3_next 28 = .ok (.iload 4, 2) := by decide +kernel
theorem dX3_next_30 : decode cX3_next 30 = .ok (.iload_n 3, 1) := by decide +kernel
theorem dX3_next_31 : decode cX3_next 31 = .ok (.iload_n 2, 1) := by decide +kernel
theorem dX3_next_32 : decode cX3_next 32 = .ok (.invokevirtual 71, 3) := by decide +kernel
theorem dX3_next_35 : decode cX3_next 35 = .ok (.ifCond .ne 9, 3) := by decide +kernel
theorem dX3_next_38 : decode cX3_next 38 = .ok (.iinc 4 1, 3) := by decide +kernel
theorem dX3_next_41 : decode cX3_next 41 = .ok (.goto (-38), 3) := by decide +kernel
theorem dX3_next_44 : decode cX3_next 44 = .ok (.iload 4, 2) := by decide +kernel
theorem dX3_next_46 : decode cX3_next 46 = .ok (.aload_n 0, 1) := by decide +kernel
theorem dX3_next_47 : decode cX3_next 47 = .ok (.getfield 40, 3) := by decide +kernel
theorem dX3_next_50 : decode cX3_next 50 = .ok (.if_icmp .ne 8, 3) := by decide +kernel
theorem dX3_next_53 : decode cX3_next 53 = .ok (.bipush (-9), 2) := by decide +kernel
theorem dX3_next_55 : decode cX3_next 55 = .ok (.goto 5, 3) := by decide +kernel
theorem dX3_next_58 : decode cX3_next 58 = .ok (.iload 4, 2) := by decide +kernel
theorem dX3_next_60 : decode cX3_next 60 = .ok (.ireturn, 1) := by decide +kernel
set_option maxRecDepth 20000 in
theorem ggX3_layRing_X3_layLeads : GoodIn wsX3_layRing wsX3_layLeads := goodIn_r _ [7, 8, 1, 9, 10, 19, 20, 21, 22, 23, 24, 25, 26, 27] (by decide +kernel) (by decide +kernel)
set_option maxRecDepth 20000 in
theorem gX3_layRing_X3_layLeads : GoodIn wsX3_layRing (wsV RX3 74 RX3 yX3_layLeads wsX3_layLeads) := goodIn_app (goodIn_of _ (by decide +kernel)) ggX3_layRing_X3_layLeads
set_option maxRecDepth 20000 in
theorem ggX3_layRing_X3_isWalk : GoodIn wsX3_layRing wsX3_isWalk := goodIn_r _ [14, 8, 19, 20, 21, 22, 23, 24, 25, 26, 27] (by decide +kernel) (by decide +kernel)
set_option maxRecDepth 20000 in
theorem gX3_layRing_X3_isWalk : GoodIn wsX3_layRing (wsV RX3 71 RX3 yX3_isWalk wsX3_isWalk) := goodIn_app (goodIn_of _ (by decide +kernel)) ggX3_layRing_X3_isWalk
set_option maxRecDepth 20000 in
theorem ggX3_layRing_X3_next : GoodIn wsX3_layRing wsX3_next := goodIn_r _ [18, 1, 9, 11, 12, 13, 6, 14, 8, 19, 20, 21, 22, 23, 24, 25, 26, 27] (by decide +kernel) (by decide +kernel)
set_option maxRecDepth 20000 in
theorem gX3_layRing_X3_next : GoodIn wsX3_layRing (wsV RX3 77 RX3 yX3_next wsX3_next) := goodIn_app (goodIn_of _ (by decide +kernel)) ggX3_layRing_X3_next
theorem dX3_layRing_0 : decode cX3_layRing 0 = .ok (.aload_n 0, 1) := by decide +kernel
theorem dX3_layRing_1 : decode cX3_layRing 1 = .ok (.invokevirtual 74, 3) := by decide +kernel
theorem dX3_layRing_4 : decode cX3_layRing 4 = .ok (.iconst 0, 1) := by decide +kernel
theorem dX3_layRing_5 : decode cX3_layRing 5 = .ok (.istore_n 2, 1) := by decide +kernel
theorem dX3_layRing_6 : decode cX3_layRing 6 = .ok (.iload_n 2, 1) := by decide +kernel
theorem dX3_layRing_7 : decode cX3_layRing 7 = .ok (.aload_n 0, 1) := by decide +kernel
theorem dX3_layRing_8 : decode cX3_layRing 8 = .ok (.getfield 40, 3) := by decide +kernel
theorem dX3_layRing_11 : decode cX3_layRing 11 = .ok (.if_icmp .ge 19, 3) := by decide +kernel
theorem dX3_layRing_14 : decode cX3_layRing 14 = .ok (.aload_n 0, 1) := by decide +kernel
theorem dX3_layRing_15 : decode cX3_layRing 15 = .ok (.iload_n 2, 1) := by decide +kernel
theorem dX3_layRing_16 : decode cX3_layRing 16 = .ok (.iload_n 2, 1) := by decide +kernel
theorem dX3_layRing_17 : decode cX3_layRing 17 = .ok (.iload_n 1, 1) := by decide +kernel
theorem dX3_layRing_18 : decode cX3_layRing 18 = .ok (.invokevirtual 71, 3) := by decide +kernel
theorem dX3_layRing_21 : decode cX3_layRing 21 = .ok (.ifCond .ne 9, 3) := by decide +kernel
theorem dX3_layRing_24 : decode cX3_layRing 24 = .ok (.iinc 2 1, 3) := by decide +kernel
theorem dX3_layRing_27 : decode cX3_layRing 27 = .ok (.goto (-21), 3) := by decide +kernel
theorem dX3_layRing_30 : decode cX3_layRing 30 = .ok (.iload_n 2, 1) := by decide +kernel
theorem dX3_layRing_31 : decode cX3_layRing 31 = .ok (.aload_n 0, 1) := by decide +kernel
theorem dX3_layRing_32 : decode cX3_layRing 32 = .ok (.getfield 40, 3) := by decide +kernel
theorem dX3_layRing_35 : decode cX3_layRing 35 = .ok (.if_icmp .ne 5, 3) := by decide +kernel
theorem dX3_layRing_38 : decode cX3_layRing 38 = .ok (.iconst 0, 1) := by decide +kernel
theorem dX3_layRing_39 : decode cX3_layRing 39 = .ok (.ireturn, 1) := by decide +kernel
theorem dX3_layRing_40 : decode cX3_layRing 40 = .ok (.aload_n 0, 1) := by decide +kernel
theorem dX3_layRing_41 : decode cX3_layRing 41 = .ok (.getfield 23, 3) := by decide +kernel
theorem dX3_layRing_44 : decode cX3_layRing 44 = .ok (.iconst 0, 1) := by decide +kernel
theorem dX3_layRing_45 : decode cX3_layRing 45 = .ok (.iload_n 2, 1) := by decide +kernel
theorem dX3_layRing_46 : decode cX3_layRing 46 = .ok (.iastore, 1) := by decide +kernel
theorem dX3_layRing_47 : decode cX3_layRing 47 = .ok (.iconst 1, 1) := by decide +kernel
theorem dX3_layRing_48 : decode cX3_layRing 48 = .ok (.istore_n 3, 1) := by decide +kernel
theorem dX3_layRing_49 : decode cX3_layRing 49 = .ok (.iload_n 3, 1) := by decide +kernel
theorem dX3_layRing_50 : decode cX3_layRing 50 = .ok (.iload_n 1, 1) := by decide +kernel
theorem dX3_layRing_51 : decode cX3_layRing 51 = .ok (.if_icmp .ge 31, 3) := by decide +kernel
theorem dX3_layRing_54 : decode cX3_layRing 54 = .ok (.aload_n 0, 1) := by decide +kernel
theorem dX3_layRing_55 : decode cX3_layRing 55 = .ok (.getfield 23, 3) := by decide +kernel
theorem dX3_layRing_58 : decode cX3_layRing 58 = .ok (.iload_n 3, 1) := by decide +kernel
theorem dX3_layRing_59 : decode cX3_layRing 59 = .ok (.aload_n 0, 1) := by decide +kernel
theorem dX3_layRing_60 : decode cX3_layRing 60 = .ok (.aload_n 0, 1) := by decide +kernel
theorem dX3_layRing_61 : decode cX3_layRing 61 = .ok (.getfield 23, 3) := by decide +kernel
theorem dX3_layRing_64 : decode cX3_layRing 64 = .ok (.iload_n 3, 1) := by decide +kernel
theorem dX3_layRing_65 : decode cX3_layRing 65 = .ok (.iconst 1, 1) := by decide +kernel
theorem dX3_layRing_66 : decode cX3_layRing 66 = .ok (.isub, 1) := by decide +kernel
theorem dX3_layRing_67 : decode cX3_layRing 67 = .ok (.iaload, 1) := by decide +kernel
theorem dX3_layRing_68 : decode cX3_layRing 68 = .ok (.iload_n 1, 1) := by decide +kernel
theorem dX3_layRing_69 : decode cX3_layRing 69 = .ok (.iload_n 3, 1) := by decide +kernel
theorem dX3_layRing_70 : decode cX3_layRing 70 = .ok (.isub, 1) := by decide +kernel
theorem dX3_layRing_71 : decode cX3_layRing 71 = .ok (.iload_n 2, 1) := by decide +kernel
theorem dX3_layRing_72 : decode cX3_layRing 72 = .ok (.invokevirtual 77, 3) := by decide +kernel
theorem dX3_layRing_75 : decode cX3_layRing 75 = .ok (.iastore, 1) := by decide +kernel
theorem dX3_layRing_76 : decode cX3_layRing 76 = .ok (.iinc 3 1, 3) := by decide +kernel
theorem dX3_layRing_79 : decode cX3_layRing 79 = .ok (.goto (-30), 3) := by decide +kernel
theorem dX3_layRing_82 : decode cX3_layRing 82 = .ok (.iconst 1, 1) := by decide +kernel
theorem dX3_layRing_83 : decode cX3_layRing 83 = .ok (.ireturn, 1) := by decide +kernel
set_option maxRecDepth 20000 in
theorem ggX3_first_X3_isRing : GoodIn wsX3_first wsX3_isRing := goodIn_r _ [5, 6, 7, 4, 8] (by decide +kernel) (by decide +kernel)
set_option maxRecDepth 20000 in
theorem gX3_first_X3_isRing : GoodIn wsX3_first (va_wsS RX3 60 yX3_isRing wsX3_isRing) := goodIn_app (goodIn_of _ (by decide +kernel)) ggX3_first_X3_isRing
set_option maxRecDepth 20000 in
theorem ggX3_first_X3_in : GoodIn wsX3_first wsX3_in := goodIn_r _ [8] (by decide +kernel) (by decide +kernel)
set_option maxRecDepth 20000 in
theorem gX3_first_X3_in : GoodIn wsX3_first (va_wsS RX3 44 yX3_in wsX3_in) := goodIn_app (goodIn_of _ (by decide +kernel)) ggX3_first_X3_in
set_option maxRecDepth 20000 in
theorem ggX3_first_X3_layRing : GoodIn wsX3_first wsX3_layRing := goodIn_r _ [12, 13, 1, 14, 15, 16, 4, 17, 18, 19, 20, 21, 22, 23, 24, 25, 26, 27, 28, 29, 30, 31, 32, 33, 34, 35, 36, 37] (by decide +kernel) (by decide +kernel)
set_option maxRecDepth 20000 in
theorem gX3_first_X3_layRing : GoodIn wsX3_first (wsV RX3 81 RX3 yX3_layRing wsX3_layRing) := goodIn_app (goodIn_of _ (by decide +kernel)) ggX3_first_X3_layRing
theorem dX3_first_0 : decode cX3_first 0 = .ok (.iload_n 1, 1) := by decide +kernel
theorem dX3_first_1 : decode cX3_first 1 = .ok (.invokestatic 60, 3) := by decide +kernel
theorem dX3_first_4 : decode cX3_first 4 = .ok (.ifCond .ne 6, 3) := by decide +kernel
theorem dX3_first_7 : decode cX3_first 7 = .ok (.bipush (-2), 2) := by decide +kernel
theorem dX3_first_9 : decode cX3_first 9 = .ok (.ireturn, 1) := by decide +kernel
theorem dX3_first_10 : decode cX3_first 10 = .ok (.iload_n 2, 1) := by decide +kernel
theorem dX3_first_11 : decode cX3_first 11 = .ok (.iconst 0, 1) := by decide +kernel
theorem dX3_first_12 : decode cX3_first 12 = .ok (.iload_n 1, 1) := by decide +kernel
theorem dX3_first_13 : decode cX3_first 13 = .ok (.iconst 1, 1) := by decide +kernel
theorem dX3_first_14 : decode cX3_first 14 = .ok (.isub, 1) := by decide +kernel
theorem dX3_first_15 : decode cX3_first 15 = .ok (.invokestatic 44, 3) := by decide +kernel
theorem dX3_first_18 : decode cX3_first 18 = .ok (.ifCond .ne 5, 3) := by decide +kernel
theorem dX3_first_21 : decode cX3_first 21 = .ok (.iconst (-1), 1) := by decide +kernel
theorem dX3_first_22 : decode cX3_first 22 = .ok (.ireturn, 1) := by decide +kernel
theorem dX3_first_23 : decode cX3_first 23 = .ok (.aload_n 0, 1) := by decide +kernel
theorem dX3_first_24 : decode cX3_first 24 = .ok (.iload_n 1, 1) := by decide +kernel
theorem dX3_first_25 : decode cX3_first 25 = .ok (.invokevirtual 81, 3) := by decide +kernel
theorem dX3_first_28 : decode cX3_first 28 = .ok (.ifCond .eq 12, 3) := by decide +kernel
theorem dX3_first_31 : decode cX3_first 31 = .ok (.aload_n 0, 1) := by decide +kernel
theorem dX3_first_32 : decode cX3_first 32 = .ok (.getfield 23, 3) := by decide +kernel
theorem dX3_first_35 : decode cX3_first 35 = .ok (.iload_n 2, 1) := by decide +kernel
theorem dX3_first_36 : decode cX3_first 36 = .ok (.iaload, 1) := by decide +kernel
theorem dX3_first_37 : decode cX3_first 37 = .ok (.goto 5, 3) := by decide +kernel
theorem dX3_first_40 : decode cX3_first 40 = .ok (.bipush (-9), 2) := by decide +kernel
theorem dX3_first_42 : decode cX3_first 42 = .ok (.ireturn, 1) := by decide +kernel
set_option maxRecDepth 20000 in
theorem ggX3_isOneBlock_X3_isWalk : GoodIn wsX3_isOneBlock wsX3_isWalk := goodIn_r _ [5, 6, 7, 8, 9, 10, 11, 12, 13, 14, 15] (by decide +kernel) (by decide +kernel)
set_option maxRecDepth 20000 in
theorem gX3_isOneBlock_X3_isWalk : GoodIn wsX3_isOneBlock (wsV RX3 71 RX3 yX3_isWalk wsX3_isWalk) := goodIn_app (goodIn_of _ (by decide +kernel)) ggX3_isOneBlock_X3_isWalk
theorem dX3_isOneBlock_0 : decode cX3_isOneBlock 0 = .ok (.iconst 0, 1) := by decide +kernel
theorem dX3_isOneBlock_1 : decode cX3_isOneBlock 1 = .ok (.istore_n 3, 1) := by decide +kernel
theorem dX3_isOneBlock_2 : decode cX3_isOneBlock 2 = .ok (.iconst 0, 1) := by decide +kernel
theorem dX3_isOneBlock_3 : decode cX3_isOneBlock 3 = .ok (.istore 4, 2) := by decide +kernel
theorem dX3_isOneBlock_5 : decode cX3_isOneBlock 5 = .ok (.iconst 0, 1) := by decide +kernel
theorem dX3_isOneBlock_6 : decode cX3_isOneBlock 6 = .ok (.istore 5, 2) := by decide +kernel
theorem dX3_isOneBlock_8 : decode cX3_isOneBlock 8 = .ok (.iload 5, 2) := by decide +kernel
theorem dX3_isOneBlock_10 : decode cX3_isOneBlock 10 = .ok (.bipush 6, 2) := by decide +kernel
theorem dX3_isOneBlock_12 : decode cX3_isOneBlock 12 = .ok (.if_icmp .ge 53, 3) := by decide +kernel
theorem dX3_isOneBlock_15 : decode cX3_isOneBlock 15 = .ok (.iload_n 3, 1) := by decide +kernel
theorem dX3_isOneBlock_16 : decode cX3_isOneBlock 16 = .ok (.ifCond .ne 14, 3) := by decide +kernel
theorem dX3_isOneBlock_19 : decode cX3_isOneBlock 19 = .ok (.aload_n 0, 1) := by decide +kernel
theorem dX3_isOneBlock_20 : decode cX3_isOneBlock 20 = .ok (.iload_n 1, 1) := by decide +kernel
theorem dX3_isOneBlock_21 : decode cX3_isOneBlock 21 = .ok (.iload_n 2, 1) := by decide +kernel
theorem dX3_isOneBlock_22 : decode cX3_isOneBlock 22 = .ok (.iload 5, 2) := by decide +kernel
theorem dX3_isOneBlock_24 : decode cX3_isOneBlock 24 = .ok (.invokevirtual 71, 3) := by decide +kernel
theorem dX3_isOneBlock_27 : decode cX3_isOneBlock 27 = .ok (.ifCond .eq 7, 3) := by decide +kernel
theorem dX3_isOneBlock_30 : decode cX3_isOneBlock 30 = .ok (.iconst 1, 1) := by decide +kernel
theorem dX3_isOneBlock_31 : decode cX3_isOneBlock 31 = .ok (.goto 4, 3) := by decide +kernel
theorem dX3_isOneBlock_34 : decode cX3_isOneBlock 34 = .ok (.iconst 0, 1) := by decide +kernel
theorem dX3_isOneBlock_35 : decode cX3_isOneBlock 35 = .ok (.istore_n 3, 1) := by decide +kernel
theorem dX3_isOneBlock_36 : decode cX3_isOneBlock 36 = .ok (.iload 4, 2) := by decide +kernel
theorem dX3_isOneBlock_38 : decode cX3_isOneBlock 38 = .ok (.ifCond .ne 14, 3) := by decide +kernel
theorem dX3_isOneBlock_41 : decode cX3_isOneBlock 41 = .ok (.aload_n 0, 1) := by decide +kernel
theorem dX3_isOneBlock_42 : decode cX3_isOneBlock 42 = .ok (.iload_n 2, 1) := by decide +kernel
theorem dX3_isOneBlock_43 : decode cX3_isOneBlock 43 = .ok (.iload_n 1, 1) := by decide +kernel
theorem dX3_isOneBlock_44 : decode cX3_isOneBlock 44 = .ok (.iload 5, 2) := by decide +kernel
theorem dX3_isOneBlock_46 : decode cX3_isOneBlock 46 = .ok (.invokevirtual 71, 3) := by decide +kernel
theorem dX3_isOneBlock_49 : decode cX3_isOneBlock 49 = .ok (.ifCond .eq 7, 3) := by decide +kernel
theorem dX3_isOneBlock_52 : decode cX3_isOneBlock 52 = .ok (.iconst 1, 1) := by decide +kernel
theorem dX3_isOneBlock_53 : decode cX3_isOneBlock 53 = .ok (.goto 4, 3) := by decide +kernel
theorem dX3_isOneBlock_56 : decode cX3_isOneBlock 56 = .ok (.iconst 0, 1) := by decide +kernel
theorem dX3_isOneBlock_57 : decode cX3_isOneBlock 57 = .ok (.istore 4, 2) := by decide +kernel
theorem dX3_isOneBlock_59 : decode cX3_isOneBlock 59 = .ok (.iinc 5 1, 3) := by decide +kernel
theorem dX3_isOneBlock_62 : decode cX3_isOneBlock 62 = .ok (.goto (-54), 3) := by decide +kernel
theorem dX3_isOneBlock_65 : decode cX3_isOneBlock 65 = .ok (.iload_n 3, 1) := by decide +kernel
theorem dX3_isOneBlock_66 : decode cX3_isOneBlock 66 = .ok (.ifCond .eq 12, 3) := by decide +kernel
theorem dX3_isOneBlock_69 : decode cX3_isOneBlock 69 = .ok (.iload 4, 2) := by decide +kernel
theorem dX3_isOneBlock_71 : decode cX3_isOneBlock 71 = .ok (.ifCond .eq 7, 3) := by decide +kernel
theorem dX3_isOneBlock_74 : decode cX3_isOneBlock 74 = .ok (.iconst 1, 1) := by decide +kernel
theorem dX3_isOneBlock_75 : decode cX3_isOneBlock 75 = .ok (.goto 4, 3) := by decide +kernel
theorem dX3_isOneBlock_78 : decode cX3_isOneBlock 78 = .ok (.iconst 0, 1) := by decide +kernel
theorem dX3_isOneBlock_79 : decode cX3_isOneBlock 79 = .ok (.ireturn, 1) := by decide +kernel
set_option maxRecDepth 20000 in
theorem ggX3_blockOf_X3_isOneBlock : GoodIn wsX3_blockOf wsX3_isOneBlock := goodIn_r _ [5, 6, 7, 8, 4, 9, 10, 11, 12, 13, 14, 15, 16, 17, 18, 19] (by decide +kernel) (by decide +kernel)
set_option maxRecDepth 20000 in
theorem gX3_blockOf_X3_isOneBlock : GoodIn wsX3_blockOf (wsV RX3 84 RX3 yX3_isOneBlock wsX3_isOneBlock) := goodIn_app (goodIn_of _ (by decide +kernel)) ggX3_blockOf_X3_isOneBlock
theorem dX3_blockOf_0 : decode cX3_blockOf 0 = .ok (.iconst 0, 1) := by decide +kernel
theorem dX3_blockOf_1 : decode cX3_blockOf 1 = .ok (.istore_n 2, 1) := by decide +kernel
theorem dX3_blockOf_2 : decode cX3_blockOf 2 = .ok (.aload_n 0, 1) := by decide +kernel
theorem dX3_blockOf_3 : decode cX3_blockOf 3 = .ok (.iload_n 1, 1) := by decide +kernel
theorem dX3_blockOf_4 : decode cX3_blockOf 4 = .ok (.iload_n 2, 1) := by decide +kernel
theorem dX3_blockOf_5 : decode cX3_blockOf 5 = .ok (.invokevirtual 84, 3) := by decide +kernel
theorem dX3_blockOf_8 : decode cX3_blockOf 8 = .ok (.ifCond .ne 9, 3) := by decide +kernel
theorem dX3_blockOf_11 : decode cX3_blockOf 11 = .ok (.iinc 2 1, 3) := by decide +kernel
theorem dX3_blockOf_14 : decode cX3_blockOf 14 = .ok (.goto (-12), 3) := by decide +kernel
theorem dX3_blockOf_17 : decode cX3_blockOf 17 = .ok (.iload_n 2, 1) := by decide +kernel
theorem dX3_blockOf_18 : decode cX3_blockOf 18 = .ok (.ireturn, 1) := by decide +kernel
set_option maxRecDepth 20000 in
theorem ggX3_blocks_X3_layLeads : GoodIn wsX3_blocks wsX3_layLeads := goodIn_r _ [6, 7, 1, 8, 9, 22, 23, 24, 25, 26, 27, 28, 29, 30] (by decide +kernel) (by decide +kernel)
set_option maxRecDepth 20000 in
theorem gX3_blocks_X3_layLeads : GoodIn wsX3_blocks (wsV RX3 74 RX3 yX3_layLeads wsX3_layLeads) := goodIn_app (goodIn_of _ (by decide +kernel)) ggX3_blocks_X3_layLeads
set_option maxRecDepth 20000 in
theorem ggX3_blocks_X3_blockOf : GoodIn wsX3_blocks wsX3_blockOf := goodIn_r _ [13, 14, 15, 16, 5, 17, 18, 19, 20, 21, 7, 22, 23, 24, 25, 26, 27, 28, 29, 30] (by decide +kernel) (by decide +kernel)
set_option maxRecDepth 20000 in
theorem gX3_blocks_X3_blockOf : GoodIn wsX3_blocks (wsV RX3 88 RX3 yX3_blockOf wsX3_blockOf) := goodIn_app (goodIn_of _ (by decide +kernel)) ggX3_blocks_X3_blockOf
theorem dX3_blocks_0 : decode cX3_blocks 0 = .ok (.aload_n 0, 1) := by decide +kernel
theorem dX3_blocks_1 : decode cX3_blocks 1 = .ok (.invokevirtual 74, 3) := by decide +kernel
theorem dX3_blocks_4 : decode cX3_blocks 4 = .ok (.iconst 0, 1) := by decide +kernel
theorem dX3_blocks_5 : decode cX3_blocks 5 = .ok (.istore_n 1, 1) := by decide +kernel
theorem dX3_blocks_6 : decode cX3_blocks 6 = .ok (.iconst 0, 1) := by decide +kernel
theorem dX3_blocks_7 : decode cX3_blocks 7 = .ok (.istore_n 2, 1) := by decide +kernel
theorem dX3_blocks_8 : decode cX3_blocks 8 = .ok (.iload_n 2, 1) := by decide +kernel
theorem dX3_blocks_9 : decode cX3_blocks 9 = .ok (.aload_n 0, 1) := by decide +kernel
theorem dX3_blocks_10 : decode cX3_blocks 10 = .ok (.getfield 40, 3) := by decide +kernel
theorem dX3_blocks_13 : decode cX3_blocks 13 = .ok (.if_icmp .ge 26, 3) := by decide +kernel
theorem dX3_blocks_16 : decode cX3_blocks 16 = .ok (.iload_n 1, 1) := by decide +kernel
theorem dX3_blocks_17 : decode cX3_blocks 17 = .ok (.aload_n 0, 1) := by decide +kernel
theorem dX3_blocks_18 : decode cX3_blocks 18 = .ok (.iload_n 2, 1) := by decide +kernel
theorem dX3_blocks_19 : decode cX3_blocks 19 = .ok (.invokevirtual 88, 3) := by decide +kernel
theorem dX3_blocks_22 : decode cX3_blocks 22 = .ok (.iload_n 2, 1) := by decide +kernel
theorem dX3_blocks_23 : decode cX3_blocks 23 = .ok (.if_icmp .ne 7, 3) := by decide +kernel
theorem dX3_blocks_26 : decode cX3_blocks 26 = .ok (.iconst 1, 1) := by decide +kernel
theorem dX3_blocks_27 : decode cX3_blocks 27 = .ok (.goto 4, 3) := by decide +kernel
theorem dX3_blocks_30 : decode cX3_blocks 30 = .ok (.iconst 0, 1) := by decide +kernel
theorem dX3_blocks_31 : decode cX3_blocks 31 = .ok (.iadd, 1) := by decide +kernel
theorem dX3_blocks_32 : decode cX3_blocks 32 = .ok (.istore_n 1, 1) := by decide +kernel
theorem dX3_blocks_33 : decode cX3_blocks 33 = .ok (.iinc 2 1, 3) := by decide +kernel
theorem dX3_blocks_36 : decode cX3_blocks 36 = .ok (.goto (-28), 3) := by decide +kernel
theorem dX3_blocks_39 : decode cX3_blocks 39 = .ok (.iload_n 1, 1) := by decide +kernel
theorem dX3_blocks_40 : decode cX3_blocks 40 = .ok (.ireturn, 1) := by decide +kernel
set_option maxRecDepth 20000 in
theorem ggX3_block_X3_layLeads : GoodIn wsX3_block wsX3_layLeads := goodIn_r _ [5, 6, 7, 8, 9, 29, 30, 31, 32, 33, 34, 35, 36, 37] (by decide +kernel) (by decide +kernel)
set_option maxRecDepth 20000 in
theorem gX3_block_X3_layLeads : GoodIn wsX3_block (wsV RX3 74 RX3 yX3_layLeads wsX3_layLeads) := goodIn_app (goodIn_of _ (by decide +kernel)) ggX3_block_X3_layLeads
set_option maxRecDepth 20000 in
theorem ggX3_block_X3_isLabel : GoodIn wsX3_block wsX3_isLabel := goodIn_r _ [13, 7, 14, 15, 4, 16, 29, 30, 31, 32, 33, 34, 35, 36, 37] (by decide +kernel) (by decide +kernel)
set_option maxRecDepth 20000 in
theorem gX3_block_X3_isLabel : GoodIn wsX3_block (wsV RX3 48 RX3 yX3_isLabel wsX3_isLabel) := goodIn_app (goodIn_of _ (by decide +kernel)) ggX3_block_X3_isLabel
set_option maxRecDepth 20000 in
theorem ggX3_block_X3_blockOf : GoodIn wsX3_block wsX3_blockOf := goodIn_r _ [20, 21, 22, 23, 4, 24, 25, 26, 27, 28, 6, 29, 30, 31, 32, 33, 34, 35, 36, 37] (by decide +kernel) (by decide +kernel)
set_option maxRecDepth 20000 in
theorem gX3_block_X3_blockOf : GoodIn wsX3_block (wsV RX3 88 RX3 yX3_blockOf wsX3_blockOf) := goodIn_app (goodIn_of _ (by decide +kernel)) ggX3_block_X3_blockOf
theorem dX3_block_0 : decode cX3_block 0 = .ok (.aload_n 0, 1) := by decide +kernel
theorem dX3_block_1 : decode cX3_block 1 = .ok (.invokevirtual 74, 3) := by decide +kernel
theorem dX3_block_4 : decode cX3_block 4 = .ok (.aload_n 0, 1) := by decide +kernel
theorem dX3_block_5 : decode cX3_block 5 = .ok (.iload_n 1, 1) := by decide +kernel
theorem dX3_block_6 : decode cX3_block 6 = .ok (.invokevirtual 48, 3) := by decide +kernel
theorem dX3_block_9 : decode cX3_block 9 = .ok (.ifCond .eq 11, 3) := by decide +kernel
theorem dX3_block_12 : decode cX3_block 12 = .ok (.aload_n 0, 1) := by decide +kernel
theorem dX3_block_13 : decode cX3_block 13 = .ok (.iload_n 1, 1) := by decide +kernel
theorem dX3_block_14 : decode cX3_block 14 = .ok (.invokevirtual 88, 3) := by decide +kernel
theorem dX3_block_17 : decode cX3_block 17 = .ok (.goto 4, 3) := by decide +kernel
theorem dX3_block_20 : decode cX3_block 20 = .ok (.iconst (-1), 1) := by decide +kernel
theorem dX3_block_21 : decode cX3_block 21 = .ok (.ireturn, 1) := by decide +kernel
theorem dX3_common_0 : decode cX3_common 0 = .ok (.iload_n 0, 1) := by decide +kernel
theorem dX3_common_1 : decode cX3_common 1 = .ok (.istore_n 2, 1) := by decide +kernel
theorem dX3_common_2 : decode cX3_common 2 = .ok (.iload_n 1, 1) := by decide +kernel
theorem dX3_common_3 : decode cX3_common 3 = .ok (.istore_n 3, 1) := by decide +kernel
theorem dX3_common_4 : decode cX3_common 4 = .ok (.iload_n 3, 1) := by decide +kernel
theorem dX3_common_5 : decode cX3_common 5 = .ok (.ifCond .le 16, 3) := by decide +kernel
theorem dX3_common_8 : decode cX3_common 8 = .ok (.iload_n 2, 1) := by decide +kernel
theorem dX3_common_9 : decode cX3_common 9 = .ok (.iload_n 3, 1) := by decide +kernel
theorem dX3_common_10 : decode cX3_common 10 = .ok (.irem, 1) := by decide +kernel
theorem dX3_common_11 : decode cX3_common 11 = .ok (.istore 4, 2) := by decide +kernel
theorem dX3_common_13 : decode cX3_common 13 = .ok (.iload_n 3, 1) := by decide +kernel
theorem dX3_common_14 : decode cX3_common 14 = .ok (.istore_n 2, 1) := by decide +kernel
theorem dX3_common_15 : decode cX3_common 15 = .ok (.iload 4, 2) := by decide +kernel
theorem dX3_common_17 : decode cX3_common 17 = .ok (.istore_n 3, 1) := by decide +kernel
theorem dX3_common_18 : decode cX3_common 18 = .ok (.goto (-14), 3) := by decide +kernel
theorem dX3_common_21 : decode cX3_common 21 = .ok (.iload_n 2, 1) := by decide +kernel
theorem dX3_common_22 : decode cX3_common 22 = .ok (.ireturn, 1) := by decide +kernel
set_option maxRecDepth 20000 in
theorem ggX3_paceOf_X3_isWalk : GoodIn wsX3_paceOf wsX3_isWalk := goodIn_r _ [5, 6, 10, 11, 12, 13, 14, 15, 16, 17, 18] (by decide +kernel) (by decide +kernel)
set_option maxRecDepth 20000 in
theorem gX3_paceOf_X3_isWalk : GoodIn wsX3_paceOf (wsV RX3 71 RX3 yX3_isWalk wsX3_isWalk) := goodIn_app (goodIn_of _ (by decide +kernel)) ggX3_paceOf_X3_isWalk
set_option maxRecDepth 20000 in
theorem ggX3_paceOf_X3_common : GoodIn wsX3_paceOf wsX3_common := goodIn_r _ [9] (by decide +kernel) (by decide +kernel)
set_option maxRecDepth 20000 in
theorem gX3_paceOf_X3_common : GoodIn wsX3_paceOf (va_wsS RX3 92 yX3_common wsX3_common) := goodIn_app (goodIn_of _ (by decide +kernel)) ggX3_paceOf_X3_common
theorem dX3_paceOf_0 : decode cX3_paceOf 0 = .ok (.iconst 0, 1) := by decide +kernel
theorem dX3_paceOf_1 : decode cX3_paceOf 1 = .ok (.istore_n 2, 1) := by decide +kernel
theorem dX3_paceOf_2 : decode cX3_paceOf 2 = .ok (.iconst 1, 1) := by decide +kernel
theorem dX3_paceOf_3 : decode cX3_paceOf 3 = .ok (.istore_n 3, 1) := by decide +kernel
theorem dX3_paceOf_4 : decode cX3_paceOf 4 = .ok (.iload_n 3, 1) := by decide +kernel
theorem dX3_paceOf_5 : decode cX3_paceOf 5 = .ok (.bipush 60, 2) := by decide +kernel
theorem dX3_paceOf_7 : decode cX3_paceOf 7 = .ok (.if_icmp .gt 29, 3) := by decide +kernel
theorem dX3_paceOf_10 : decode cX3_paceOf 10 = .ok (.aload_n 0, 1) := by decide +kernel
theorem dX3_paceOf_11 : decode cX3_paceOf 11 = .ok (.iload_n 1, 1) := by decide +kernel
theorem dX3_paceOf_12 : decode cX3_paceOf 12 = .ok (.iload_n 1, 1) := by decide +kernel
theorem dX3_paceOf_13 : decode cX3_paceOf 13 = .ok (.iload_n 3, 1) := by decide +kernel
theorem dX3_paceOf_14 : decode cX3_paceOf 14 = .ok (.invokevirtual 71, 3) := by decide +kernel
theorem dX3_paceOf_17 : decode cX3_paceOf 17 = .ok (.ifCond .eq 11, 3) := by decide +kernel
theorem dX3_paceOf_20 : decode cX3_paceOf 20 = .ok (.iload_n 3, 1) := by decide +kernel
theorem dX3_paceOf_21 : decode cX3_paceOf 21 = .ok (.iload_n 2, 1) := by decide +kernel
theorem dX3_paceOf_22 : decode cX3_paceOf 22 = .ok (.invokestatic 92, 3) := by decide +kernel
theorem dX3_paceOf_25 : decode cX3_paceOf 25 = .ok (.goto 4, 3) := by decide +kernel
theorem dX3_paceOf_28 : decode cX3_paceOf 28 = .ok (.iload_n 2, 1) := by decide +kernel
theorem dX3_paceOf_29 : decode cX3_paceOf 29 = .ok (.istore_n 2, 1) := by decide +kernel
theorem dX3_paceOf_30 : decode cX3_paceOf 30 = .ok (.iinc 3 1, 3) := by decide +kernel
theorem dX3_paceOf_33 : decode cX3_paceOf 33 = .ok (.goto (-29), 3) := by decide +kernel
theorem dX3_paceOf_36 : decode cX3_paceOf 36 = .ok (.iload_n 2, 1) := by decide +kernel
theorem dX3_paceOf_37 : decode cX3_paceOf 37 = .ok (.ireturn, 1) := by decide +kernel
set_option maxRecDepth 20000 in
theorem ggX3_pace_X3_layLeads : GoodIn wsX3_pace wsX3_layLeads := goodIn_r _ [5, 6, 7, 8, 9, 28, 29, 30, 31, 32, 33, 34, 35, 36] (by decide +kernel) (by decide +kernel)
set_option maxRecDepth 20000 in
theorem gX3_pace_X3_layLeads : GoodIn wsX3_pace (wsV RX3 74 RX3 yX3_layLeads wsX3_layLeads) := goodIn_app (goodIn_of _ (by decide +kernel)) ggX3_pace_X3_layLeads
set_option maxRecDepth 20000 in
theorem ggX3_pace_X3_isLabel : GoodIn wsX3_pace wsX3_isLabel := goodIn_r _ [13, 7, 14, 15, 4, 16, 28, 29, 30, 31, 32, 33, 34, 35, 36] (by decide +kernel) (by decide +kernel)
set_option maxRecDepth 20000 in
theorem gX3_pace_X3_isLabel : GoodIn wsX3_pace (wsV RX3 48 RX3 yX3_isLabel wsX3_isLabel) := goodIn_app (goodIn_of _ (by decide +kernel)) ggX3_pace_X3_isLabel
set_option maxRecDepth 20000 in
theorem ggX3_pace_X3_paceOf : GoodIn wsX3_pace wsX3_paceOf := goodIn_r _ [20, 21, 22, 23, 4, 24, 6, 25, 26, 27, 28, 29, 30, 31, 32, 33, 34, 35, 36] (by decide +kernel) (by decide +kernel)
set_option maxRecDepth 20000 in
theorem gX3_pace_X3_paceOf : GoodIn wsX3_pace (wsV RX3 96 RX3 yX3_paceOf wsX3_paceOf) := goodIn_app (goodIn_of _ (by decide +kernel)) ggX3_pace_X3_paceOf
theorem dX3_pace_0 : decode cX3_pace 0 = .ok (.aload_n 0, 1) := by decide +kernel
theorem dX3_pace_1 : decode cX3_pace 1 = .ok (.invokevirtual 74, 3) := by decide +kernel
theorem dX3_pace_4 : decode cX3_pace 4 = .ok (.aload_n 0, 1) := by decide +kernel
theorem dX3_pace_5 : decode cX3_pace 5 = .ok (.iload_n 1, 1) := by decide +kernel
theorem dX3_pace_6 : decode cX3_pace 6 = .ok (.invokevirtual 48, 3) := by decide +kernel
theorem dX3_pace_9 : decode cX3_pace 9 = .ok (.ifCond .eq 11, 3) := by decide +kernel
theorem dX3_pace_12 : decode cX3_pace 12 = .ok (.aload_n 0, 1) := by decide +kernel
theorem dX3_pace_13 : decode cX3_pace 13 = .ok (.iload_n 1, 1) := by decide +kernel
theorem dX3_pace_14 : decode cX3_pace 14 = .ok (.invokevirtual 96, 3) := by decide +kernel
theorem dX3_pace_17 : decode cX3_pace 17 = .ok (.goto 4, 3) := by decide +kernel
theorem dX3_pace_20 : decode cX3_pace 20 = .ok (.iconst (-1), 1) := by decide +kernel
theorem dX3_pace_21 : decode cX3_pace 21 = .ok (.ireturn, 1) := by decide +kernel
set_option maxRecDepth 20000 in
theorem ggX3_kind_X3_layLeads : GoodIn wsX3_kind wsX3_layLeads := goodIn_r _ [7, 8, 1, 2, 9, 21, 22, 23, 24, 25, 26, 27, 28, 29] (by decide +kernel) (by decide +kernel)
set_option maxRecDepth 20000 in
theorem gX3_kind_X3_layLeads : GoodIn wsX3_kind (wsV RX3 74 RX3 yX3_layLeads wsX3_layLeads) := goodIn_app (goodIn_of _ (by decide +kernel)) ggX3_kind_X3_layLeads
set_option maxRecDepth 20000 in
theorem ggX3_kind_X3_paceOf : GoodIn wsX3_kind wsX3_paceOf := goodIn_r _ [13, 14, 15, 16, 6, 17, 8, 18, 19, 20, 21, 22, 23, 24, 25, 26, 27, 28, 29] (by decide +kernel) (by decide +kernel)
set_option maxRecDepth 20000 in
theorem gX3_kind_X3_paceOf : GoodIn wsX3_kind (wsV RX3 96 RX3 yX3_paceOf wsX3_paceOf) := goodIn_app (goodIn_of _ (by decide +kernel)) ggX3_kind_X3_paceOf
theorem dX3_kind_0 : decode cX3_kind 0 = .ok (.aload_n 0, 1) := by decide +kernel
theorem dX3_kind_1 : decode cX3_kind 1 = .ok (.invokevirtual 74, 3) := by decide +kernel
theorem dX3_kind_4 : decode cX3_kind 4 = .ok (.iconst 0, 1) := by decide +kernel
theorem dX3_kind_5 : decode cX3_kind 5 = .ok (.istore_n 1, 1) := by decide +kernel
theorem dX3_kind_6 : decode cX3_kind 6 = .ok (.iconst 0, 1) := by decide +kernel
theorem dX3_kind_7 : decode cX3_kind 7 = .ok (.istore_n 2, 1) := by decide +kernel
theorem dX3_kind_8 : decode cX3_kind 8 = .ok (.iconst 0, 1) := by decide +kernel
theorem dX3_kind_9 : decode cX3_kind 9 = .ok (.istore_n 3, 1) := by decide +kernel
theorem dX3_kind_10 : decode cX3_kind 10 = .ok (.iconst 0, 1) := by decide +kernel
theorem dX3_kind_11 : decode cX3_kind 11 = .ok (.istore 4, 2) := by decide +kernel
theorem dX3_kind_13 : decode cX3_kind 13 = .ok (.iload 4, 2) := by decide +kernel
theorem dX3_kind_15 : decode cX3_kind 15 = .ok (.aload_n 0, 1) := by decide +kernel
theorem dX3_kind_16 : decode cX3_kind 16 = .ok (.getfield 40, 3) := by decide +kernel
theorem dX3_kind_19 : decode cX3_kind 19 = .ok (.if_icmp .ge 71, 3) := by decide +kernel
theorem dX3_kind_22 : decode cX3_kind 22 = .ok (.aload_n 0, 1) := by decide +kernel
theorem dX3_kind_23 : decode cX3_kind 23 = .ok (.iload 4, 2) := by decide +kernel
theorem dX3_kind_25 : decode cX3_kind 25 = .ok (.invokevirtual 96, 3) := by decide +kernel
theorem dX3_kind_28 : decode cX3_kind 28 = .ok (.istore 5, 2) := by decide +kernel
theorem dX3_kind_30 : decode cX3_kind 30 = .ok (.iload_n 1, 1) := by decide +kernel
theorem dX3_kind_31 : decode cX3_kind 31 = .ok (.ifCond .ne 8, 3) := by decide +kernel
theorem dX3_kind_34 : decode cX3_kind 34 = .ok (.iload 5, 2) := by decide +kernel
theorem dX3_kind_36 : decode cX3_kind 36 = .ok (.ifCond .le 7, 3) := by decide +kernel
theorem dX3_kind_39 : decode cX3_kind 39 = .ok (.iconst 1, 1) := by decide +kernel
theorem dX3_kind_40 : decode cX3_kind 40 = .ok (.goto 4, 3) := by decide +kernel
theorem dX3_kind_43 : decode cX3_kind 43 = .ok (.iconst 0, 1) := by decide +kernel
theorem dX3_kind_44 : decode cX3_kind 44 = .ok (.istore_n 1, 1) := by decide +kernel
theorem dX3_kind_45 : decode cX3_kind 45 = .ok (.iload_n 2, 1) := by decide +kernel
theorem dX3_kind_46 : decode cX3_kind 46 = .ok (.ifCond .ne 16, 3) := by decide +kernel
theorem dX3_kind_49 : decode cX3_kind 49 = .ok (.aload_n 0, 1) := by decide +kernel
theorem dX3_kind_50 : decode cX3_kind 50 = .ok (.getfield 7, 3) := by decide +kernel
theorem dX3_kind_53 : decode cX3_kind 53 = .ok (.bipush 7, 2) := by decide +kernel
theorem dX3_kind_55 : decode cX3_kind 55 = .ok (.iload 4, 2) := by decide +kernel
theorem dX3_kind_57 : decode cX3_kind 57 = .ok (.imul, 1) := by decide +kernel
theorem dX3_kind_58 : decode cX3_kind 58 = .ok (.baload, 1) := by decide +kernel
theorem dX3_kind_59 : decode cX3_kind 59 = .ok (.ifCond .eq 7, 3) := by decide +kernel
theorem dX3_kind_62 : decode cX3_kind 62 = .ok (.iconst 1, 1) := by decide +kernel
theorem dX3_kind_63 : decode cX3_kind 63 = .ok (.goto 4, 3) := by decide +kernel
theorem dX3_kind_66 : decode cX3_kind 66 = .ok (.iconst 0, 1) := by decide +kernel
theorem dX3_kind_67 : decode cX3_kind 67 = .ok (.istore_n 2, 1) := by decide +kernel
theorem dX3_kind_68 : decode cX3_kind 68 = .ok (.iload_n 3, 1) := by decide +kernel
theorem dX3_kind_69 : decode cX3_kind 69 = .ok (.ifCond .ne 9, 3) := by decide +kernel
theorem dX3_kind_72 : decode cX3_kind 72 = .ok (.iload 5, 2) := by decide +kernel
theorem dX3_kind_74 : decode cX3_kind 74 = .ok (.iconst 1, 1) := by decide +kernel
theorem dX3_kind_75 : decode cX3_kind 75 = .ok (.if_icmp .ne 7, 3) := by decide +kernel
theorem dX3_kind_78 : decode cX3_kind 78 = .ok (.iconst 1, 1) := by decide +kernel
theorem dX3_kind_79 : decode cX3_kind 79 = .ok (.goto 4, 3) := by decide +kernel
theorem dX3_kind_82 : decode cX3_kind 82 = .ok (.iconst 0, 1) := by decide +kernel
theorem dX3_kind_83 : decode cX3_kind 83 = .ok (.istore_n 3, 1) := by decide +kernel
theorem dX3_kind_84 : decode cX3_kind 84 = .ok (.iinc 4 1, 3) := by decide +kernel
theorem dX3_kind_87 : decode cX3_kind 87 = .ok (.goto (-74), 3) := by decide +kernel
theorem dX3_kind_90 : decode cX3_kind 90 = .ok (.iload_n 1, 1) := by decide +kernel
theorem dX3_kind_91 : decode cX3_kind 91 = .ok (.ifCond .ne 7, 3) := by decide +kernel
theorem dX3_kind_94 : decode cX3_kind 94 = .ok (.iconst 0, 1) := by decide +kernel
theorem dX3_kind_95 : decode cX3_kind 95 = .ok (.goto 20, 3) := by decide +kernel
theorem dX3_kind_98 : decode cX3_kind 98 = .ok (.iload_n 2, 1) := by decide +kernel
theorem dX3_kind_99 : decode cX3_kind 99 = .ok (.ifCond .eq 7, 3) := by decide +kernel
theorem dX3_kind_102 : decode cX3_kind 102 = .ok (.iconst 1, 1) := by decide +kernel
theorem dX3_kind_103 : decode cX3_kind 103 = .ok (.goto 12, 3) := by decide +kernel
theorem dX3_kind_106 : decode cX3_kind 106 = .ok (.iload_n 3, 1) := by decide +kernel
theorem dX3_kind_107 : decode cX3_kind 107 = .ok (.ifCond .eq 7, 3) := by decide +kernel
theorem dX3_kind_110 : decode cX3_kind 110 = .ok (.iconst 2, 1) := by decide +kernel
theorem dX3_kind_111 : decode cX3_kind 111 = .ok (.goto 4, 3) := by decide +kernel
theorem dX3_kind_114 : decode cX3_kind 114 = .ok (.iconst 3, 1) := by decide +kernel
theorem dX3_kind_115 : decode cX3_kind 115 = .ok (.ireturn, 1) := by decide +kernel
