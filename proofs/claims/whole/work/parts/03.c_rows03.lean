set_option maxRecDepth 20000 in
theorem gX1_leastOfBlock_X1_holds : GoodIn wsX1_leastOfBlock (va_wsS RX1 46 yX1_holds wsX1_holds) := goodIn_app (goodIn_of _ (by decide +kernel)) ggX1_leastOfBlock_X1_holds
theorem dX1_leastOfBlock_0 : decode cX1_leastOfBlock 0 = .ok (.aload_n 0, 1) := by decide +kernel
theorem dX1_leastOfBlock_1 : decode cX1_leastOfBlock 1 = .ok (.iload_n 1, 1) := by decide +kernel
theorem dX1_leastOfBlock_2 : decode cX1_leastOfBlock 2 = .ok (.invokevirtual 94, 3) := by decide +kernel
theorem dX1_leastOfBlock_5 : decode cX1_leastOfBlock 5 = .ok (.istore_n 2, 1) := by decide +kernel
theorem dX1_leastOfBlock_6 : decode cX1_leastOfBlock 6 = .ok (.iconst 0, 1) := by decide +kernel
theorem dX1_leastOfBlock_7 : decode cX1_leastOfBlock 7 = .ok (.istore_n 3, 1) := by decide +kernel
theorem dX1_leastOfBlock_8 : decode cX1_leastOfBlock 8 = .ok (.iload_n 3, 1) := by decide +kernel
theorem dX1_leastOfBlock_9 : decode cX1_leastOfBlock 9 = .ok (.iload_n 1, 1) := by decide +kernel
theorem dX1_leastOfBlock_10 : decode cX1_leastOfBlock 10 = .ok (.if_icmp .ge 31, 3) := by decide +kernel
theorem dX1_leastOfBlock_13 : decode cX1_leastOfBlock 13 = .ok (.iload_n 2, 1) := by decide +kernel
theorem dX1_leastOfBlock_14 : decode cX1_leastOfBlock 14 = .ok (.iload_n 3, 1) := by decide +kernel
theorem dX1_leastOfBlock_15 : decode cX1_leastOfBlock 15 = .ok (.invokestatic 46, 3) := by decide +kernel
theorem dX1_leastOfBlock_18 : decode cX1_leastOfBlock 18 = .ok (.ifCond .eq 17, 3) := by decide +kernel
theorem dX1_leastOfBlock_21 : decode cX1_leastOfBlock 21 = .ok (.aload_n 0, 1) := by decide +kernel
theorem dX1_leastOfBlock_22 : decode cX1_leastOfBlock 22 = .ok (.iload_n 3, 1) := by decide +kernel
theorem dX1_leastOfBlock_23 : decode cX1_leastOfBlock 23 = .ok (.invokevirtual 94, 3) := by decide +kernel
theorem dX1_leastOfBlock_26 : decode cX1_leastOfBlock 26 = .ok (.iload_n 1, 1) := by decide +kernel
theorem dX1_leastOfBlock_27 : decode cX1_leastOfBlock 27 = .ok (.invokestatic 46, 3) := by decide +kernel
theorem dX1_leastOfBlock_30 : decode cX1_leastOfBlock 30 = .ok (.ifCond .eq 5, 3) := by decide +kernel
theorem dX1_leastOfBlock_33 : decode cX1_leastOfBlock 33 = .ok (.iload_n 3, 1) := by decide +kernel
theorem dX1_leastOfBlock_34 : decode cX1_leastOfBlock 34 = .ok (.ireturn, 1) := by decide +kernel
theorem dX1_leastOfBlock_35 : decode cX1_leastOfBlock 35 = .ok (.iinc 3 1, 3) := by decide +kernel
theorem dX1_leastOfBlock_38 : decode cX1_leastOfBlock 38 = .ok (.goto (-30), 3) := by decide +kernel
theorem dX1_leastOfBlock_41 : decode cX1_leastOfBlock 41 = .ok (.iload_n 1, 1) := by decide +kernel
theorem dX1_leastOfBlock_42 : decode cX1_leastOfBlock 42 = .ok (.ireturn, 1) := by decide +kernel
set_option maxRecDepth 20000 in
theorem ggX1_reachedFrom_X1_holds : GoodIn wsX1_reachedFrom wsX1_holds := goodIn_r _ [6] (by decide +kernel) (by decide +kernel)
set_option maxRecDepth 20000 in
theorem gX1_reachedFrom_X1_holds : GoodIn wsX1_reachedFrom (va_wsS RX1 46 yX1_holds wsX1_holds) := goodIn_app (goodIn_of _ (by decide +kernel)) ggX1_reachedFrom_X1_holds
theorem dX1_reachedFrom_0 : decode cX1_reachedFrom 0 = .ok (.iconst 1, 1) := by decide +kernel
theorem dX1_reachedFrom_1 : decode cX1_reachedFrom 1 = .ok (.iload_n 1, 1) := by decide +kernel
theorem dX1_reachedFrom_2 : decode cX1_reachedFrom 2 = .ok (.ishl, 1) := by decide +kernel
theorem dX1_reachedFrom_3 : decode cX1_reachedFrom 3 = .ok (.istore_n 2, 1) := by decide +kernel
theorem dX1_reachedFrom_4 : decode cX1_reachedFrom 4 = .ok (.iconst 1, 1) := by decide +kernel
theorem dX1_reachedFrom_5 : decode cX1_reachedFrom 5 = .ok (.istore_n 3, 1) := by decide +kernel
theorem dX1_reachedFrom_6 : decode cX1_reachedFrom 6 = .ok (.iload_n 3, 1) := by decide +kernel
theorem dX1_reachedFrom_7 : decode cX1_reachedFrom 7 = .ok (.aload_n 0, 1) := by decide +kernel
theorem dX1_reachedFrom_8 : decode cX1_reachedFrom 8 = .ok (.getfield 38, 3) := by decide +kernel
theorem dX1_reachedFrom_11 : decode cX1_reachedFrom 11 = .ok (.if_icmp .ge 54, 3) := by decide +kernel
theorem dX1_reachedFrom_14 : decode cX1_reachedFrom 14 = .ok (.iload_n 2, 1) := by decide +kernel
theorem dX1_reachedFrom_15 : decode cX1_reachedFrom 15 = .ok (.istore 4, 2) := by decide +kernel
theorem dX1_reachedFrom_17 : decode cX1_reachedFrom 17 = .ok (.iconst 0, 1) := by decide +kernel
theorem dX1_reachedFrom_18 : decode cX1_reachedFrom 18 = .ok (.istore 5, 2) := by decide +kernel
theorem dX1_reachedFrom_20 : decode cX1_reachedFrom 20 = .ok (.iload 5, 2) := by decide +kernel
theorem dX1_reachedFrom_22 : decode cX1_reachedFrom 22 = .ok (.aload_n 0, 1) := by decide +kernel
theorem dX1_reachedFrom_23 : decode cX1_reachedFrom 23 = .ok (.getfield 38, 3) := by decide +kernel
theorem dX1_reachedFrom_26 : decode cX1_reachedFrom 26 = .ok (.if_icmp .ge 30, 3) := by decide +kernel
theorem dX1_reachedFrom_29 : decode cX1_reachedFrom 29 = .ok (.iload_n 2, 1) := by decide +kernel
theorem dX1_reachedFrom_30 : decode cX1_reachedFrom 30 = .ok (.iload 5, 2) := by decide +kernel
theorem dX1_reachedFrom_32 : decode cX1_reachedFrom 32 = .ok (.invokestatic 46, 3) := by decide +kernel
theorem dX1_reachedFrom_35 : decode cX1_reachedFrom 35 = .ok (.ifCond .eq 15, 3) := by decide +kernel
theorem dX1_reachedFrom_38 : decode cX1_reachedFrom 38 = .ok (.iload 4, 2) := by decide +kernel
theorem dX1_reachedFrom_40 : decode cX1_reachedFrom 40 = .ok (.aload_n 0, 1) := by decide +kernel
theorem dX1_reachedFrom_41 : decode cX1_reachedFrom 41 = .ok (.getfield 9, 3) := by decide +kernel
theorem dX1_reachedFrom_44 : decode cX1_reachedFrom 44 = .ok (.iload 5, 2) := by decide +kernel
theorem dX1_reachedFrom_46 : decode cX1_reachedFrom 46 = .ok (.iaload, 1) := by decide +kernel
theorem dX1_reachedFrom_47 : decode cX1_reachedFrom 47 = .ok (.ior, 1) := by decide +kernel
theorem dX1_reachedFrom_48 : decode cX1_reachedFrom 48 = .ok (.istore 4, 2) := by decide +kernel
theorem dX1_reachedFrom_50 : decode cX1_reachedFrom 50 = .ok (.iinc 5 1, 3) := by decide +kernel
theorem dX1_reachedFrom_53 : decode cX1_reachedFrom 53 = .ok (.goto (-33), 3) := by decide +kernel
theorem dX1_reachedFrom_56 : decode cX1_reachedFrom 56 = .ok (.iload 4, 2) := by decide +kernel
theorem dX1_reachedFrom_58 : decode cX1_reachedFrom 58 = .ok (.istore_n 2, 1) := by decide +kernel
theorem dX1_reachedFrom_59 : decode cX1_reachedFrom 59 = .ok (.iinc 3 1, 3) := by decide +kernel
theorem dX1_reachedFrom_62 : decode cX1_reachedFrom 62 = .ok (.goto (-56), 3) := by decide +kernel
theorem dX1_reachedFrom_65 : decode cX1_reachedFrom 65 = .ok (.iload_n 2, 1) := by decide +kernel
theorem dX1_reachedFrom_66 : decode cX1_reachedFrom 66 = .ok (.ireturn, 1) := by decide +kernel
set_option maxRecDepth 20000 in
theorem ggX1_paceOf_X1_returnLengths : GoodIn wsX1_paceOf wsX1_returnLengths := goodIn_r _ [7, 8, 9, 10, 11, 6, 12, 2, 13, 14, 15, 16, 20, 21, 22, 23, 24, 25] (by decide +kernel) (by decide +kernel)
set_option maxRecDepth 20000 in
theorem gX1_paceOf_X1_returnLengths : GoodIn wsX1_paceOf (wsV RX1 97 RX1 yX1_returnLengths wsX1_returnLengths) := goodIn_app (goodIn_of _ (by decide +kernel)) ggX1_paceOf_X1_returnLengths
set_option maxRecDepth 20000 in
theorem ggX1_paceOf_X1_dividesAll : GoodIn wsX1_paceOf wsX1_dividesAll := goodIn_r _ [19] (by decide +kernel) (by decide +kernel)
set_option maxRecDepth 20000 in
theorem gX1_paceOf_X1_dividesAll : GoodIn wsX1_paceOf (va_wsS RX1 103 yX1_dividesAll wsX1_dividesAll) := goodIn_app (goodIn_of _ (by decide +kernel)) ggX1_paceOf_X1_dividesAll
theorem dX1_paceOf_0 : decode cX1_paceOf 0 = .ok (.aload_n 0, 1) := by decide +kernel
theorem dX1_paceOf_1 : decode cX1_paceOf 1 = .ok (.iload_n 1, 1) := by decide +kernel
theorem dX1_paceOf_2 : decode cX1_paceOf 2 = .ok (.invokevirtual 97, 3) := by decide +kernel
theorem dX1_paceOf_5 : decode cX1_paceOf 5 = .ok (.ldc2_w 101, 3) := by decide +kernel
theorem dX1_paceOf_8 : decode cX1_paceOf 8 = .ok (.land, 1) := by decide +kernel
theorem dX1_paceOf_9 : decode cX1_paceOf 9 = .ok (.lstore_n 2, 1) := by decide +kernel
theorem dX1_paceOf_10 : decode cX1_paceOf 10 = .ok (.lload_n 2, 1) := by decide +kernel
theorem dX1_paceOf_11 : decode cX1_paceOf 11 = .ok (.lconst 0, 1) := by decide +kernel
theorem dX1_paceOf_12 : decode cX1_paceOf 12 = .ok (.lcmp, 1) := by decide +kernel
theorem dX1_paceOf_13 : decode cX1_paceOf 13 = .ok (.ifCond .ne 5, 3) := by decide +kernel
theorem dX1_paceOf_16 : decode cX1_paceOf 16 = .ok (.iconst 0, 1) := by decide +kernel
theorem dX1_paceOf_17 : decode cX1_paceOf 17 = .ok (.ireturn, 1) := by decide +kernel
theorem dX1_paceOf_18 : decode cX1_paceOf 18 = .ok (.aload_n 0, 1) := by decide +kernel
theorem dX1_paceOf_19 : decode cX1_paceOf 19 = .ok (.getfield 38, 3) := by decide +kernel
theorem dX1_paceOf_22 : decode cX1_paceOf 22 = .ok (.istore 4, 2) := by decide +kernel
theorem dX1_paceOf_24 : decode cX1_paceOf 24 = .ok (.iload 4, 2) := by decide +kernel
theorem dX1_paceOf_26 : decode cX1_paceOf 26 = .ok (.iconst 1, 1) := by decide +kernel
theorem dX1_paceOf_27 : decode cX1_paceOf 27 = .ok (.if_icmp .le 18, 3) := by decide +kernel
theorem dX1_paceOf_30 : decode cX1_paceOf 30 = .ok (.iload 4, 2) := by decide +kernel
theorem dX1_paceOf_32 : decode cX1_paceOf 32 = .ok (.lload_n 2, 1) := by decide +kernel
theorem dX1_paceOf_33 : decode cX1_paceOf 33 = .ok (.invokestatic 103, 3) := by decide +kernel
theorem dX1_paceOf_36 : decode cX1_paceOf 36 = .ok (.ifCond .ne 9, 3) := by decide +kernel
theorem dX1_paceOf_39 : decode cX1_paceOf 39 = .ok (.iinc 4 (-1), 3) := by decide +kernel
theorem dX1_paceOf_42 : decode cX1_paceOf 42 = .ok (.goto (-18), 3) := by decide +kernel
theorem dX1_paceOf_45 : decode cX1_paceOf 45 = .ok (.iload 4, 2) := by decide +kernel
theorem dX1_paceOf_47 : decode cX1_paceOf 47 = .ok (.ireturn, 1) := by decide +kernel
theorem dX1_dividesAll_0 : decode cX1_dividesAll 0 = .ok (.iconst 0, 1) := by decide +kernel
theorem dX1_dividesAll_1 : decode cX1_dividesAll 1 = .ok (.istore_n 3, 1) := by decide +kernel
theorem dX1_dividesAll_2 : decode cX1_dividesAll 2 = .ok (.iload_n 3, 1) := by decide +kernel
theorem dX1_dividesAll_3 : decode cX1_dividesAll 3 = .ok (.bipush 60, 2) := by decide +kernel
theorem dX1_dividesAll_5 : decode cX1_dividesAll 5 = .ok (.if_icmp .gt 32, 3) := by decide +kernel
theorem dX1_dividesAll_8 : decode cX1_dividesAll 8 = .ok (.lload_n 1, 1) := by decide +kernel
theorem dX1_dividesAll_9 : decode cX1_dividesAll 9 = .ok (.iload_n 3, 1) := by decide +kernel
theorem dX1_dividesAll_10 : decode cX1_dividesAll 10 = .ok (.lshr, 1) := by decide +kernel
theorem dX1_dividesAll_11 : decode cX1_dividesAll 11 = .ok (.lconst 1, 1) := by decide +kernel
theorem dX1_dividesAll_12 : decode cX1_dividesAll 12 = .ok (.land, 1) := by decide +kernel
theorem dX1_dividesAll_13 : decode cX1_dividesAll 13 = .ok (.lconst 1, 1) := by decide +kernel
theorem dX1_dividesAll_14 : decode cX1_dividesAll 14 = .ok (.lcmp, 1) := by decide +kernel
theorem dX1_dividesAll_15 : decode cX1_dividesAll 15 = .ok (.ifCond .ne 16, 3) := by decide +kernel
theorem dX1_dividesAll_18 : decode cX1_dividesAll 18 = .ok (.iload_n 0, 1) := by decide +kernel
theorem dX1_dividesAll_19 : decode cX1_dividesAll 19 = .ok (.iconst 1, 1) := by decide +kernel
theorem dX1_dividesAll_20 : decode cX1_dividesAll 20 = .ok (.if_icmp .lt 9, 3) := by decide +kernel
theorem dX1_dividesAll_23 : decode cX1_dividesAll 23 = .ok (.iload_n 3, 1) := by decide +kernel
theorem dX1_dividesAll_24 : decode cX1_dividesAll 24 = .ok (.iload_n 0, 1) := by decide +kernel
theorem dX1_dividesAll_25 : decode cX1_dividesAll 25 = .ok (.irem, 1) := by decide +kernel
theorem dX1_dividesAll_26 : decode cX1_dividesAll 26 = .ok (.ifCond .eq 5, 3) := by decide +kernel
theorem dX1_dividesAll_29 : decode cX1_dividesAll 29 = .ok (.iconst 0, 1) := by decide +kernel
theorem dX1_dividesAll_30 : decode cX1_dividesAll 30 = .ok (.ireturn, 1) := by decide +kernel
theorem dX1_dividesAll_31 : decode cX1_dividesAll 31 = .ok (.iinc 3 1, 3) := by decide +kernel
theorem dX1_dividesAll_34 : decode cX1_dividesAll 34 = .ok (.goto (-32), 3) := by decide +kernel
theorem dX1_dividesAll_37 : decode cX1_dividesAll 37 = .ok (.iconst 1, 1) := by decide +kernel
theorem dX1_dividesAll_38 : decode cX1_dividesAll 38 = .ok (.ireturn, 1) := by decide +kernel
set_option maxRecDepth 20000 in
theorem ggX1_returnLengths_X1_lookBack : GoodIn wsX1_returnLengths wsX1_lookBack := goodIn_r _ [6, 1, 7, 8, 12, 13, 14, 15, 16, 17] (by decide +kernel) (by decide +kernel)
set_option maxRecDepth 20000 in
theorem gX1_returnLengths_X1_lookBack : GoodIn wsX1_returnLengths (wsV RX1 87 RX1 yX1_lookBack wsX1_lookBack) := goodIn_app (goodIn_of _ (by decide +kernel)) ggX1_returnLengths_X1_lookBack
set_option maxRecDepth 20000 in
theorem ggX1_returnLengths_X1_holds : GoodIn wsX1_returnLengths wsX1_holds := goodIn_r _ [11] (by decide +kernel) (by decide +kernel)
set_option maxRecDepth 20000 in
theorem gX1_returnLengths_X1_holds : GoodIn wsX1_returnLengths (va_wsS RX1 46 yX1_holds wsX1_holds) := goodIn_app (goodIn_of _ (by decide +kernel)) ggX1_returnLengths_X1_holds
theorem dX1_returnLengths_0 : decode cX1_returnLengths 0 = .ok (.aload_n 0, 1) := by decide +kernel
theorem dX1_returnLengths_1 : decode cX1_returnLengths 1 = .ok (.iload_n 1, 1) := by decide +kernel
theorem dX1_returnLengths_2 : decode cX1_returnLengths 2 = .ok (.bipush 60, 2) := by decide +kernel
theorem dX1_returnLengths_4 : decode cX1_returnLengths 4 = .ok (.invokevirtual 87, 3) := by decide +kernel
theorem dX1_returnLengths_7 : decode cX1_returnLengths 7 = .ok (.lconst 0, 1) := by decide +kernel
theorem dX1_returnLengths_8 : decode cX1_returnLengths 8 = .ok (.lstore_n 2, 1) := by decide +kernel
theorem dX1_returnLengths_9 : decode cX1_returnLengths 9 = .ok (.iconst 0, 1) := by decide +kernel
theorem dX1_returnLengths_10 : decode cX1_returnLengths 10 = .ok (.istore 4, 2) := by decide +kernel
theorem dX1_returnLengths_12 : decode cX1_returnLengths 12 = .ok (.iload 4, 2) := by decide +kernel
theorem dX1_returnLengths_14 : decode cX1_returnLengths 14 = .ok (.bipush 60, 2) := by decide +kernel
theorem dX1_returnLengths_16 : decode cX1_returnLengths 16 = .ok (.if_icmp .gt 30, 3) := by decide +kernel
theorem dX1_returnLengths_19 : decode cX1_returnLengths 19 = .ok (.aload_n 0, 1) := by decide +kernel
theorem dX1_returnLengths_20 : decode cX1_returnLengths 20 = .ok (.getfield 18, 3) := by decide +kernel
theorem dX1_returnLengths_23 : decode cX1_returnLengths 23 = .ok (.iload 4, 2) := by decide +kernel
theorem dX1_returnLengths_25 : decode cX1_returnLengths 25 = .ok (.iaload, 1) := by decide +kernel
theorem dX1_returnLengths_26 : decode cX1_returnLengths 26 = .ok (.iload_n 1, 1) := by decide +kernel
theorem dX1_returnLengths_27 : decode cX1_returnLengths 27 = .ok (.invokestatic 46, 3) := by decide +kernel
theorem dX1_returnLengths_30 : decode cX1_returnLengths 30 = .ok (.ifCond .eq 10, 3) := by decide +kernel
theorem dX1_returnLengths_33 : decode cX1_returnLengths 33 = .ok (.lload_n 2, 1) := by decide +kernel
theorem dX1_returnLengths_34 : decode cX1_returnLengths 34 = .ok (.lconst 1, 1) := by decide +kernel
theorem dX1_returnLengths_35 : decode cX1_returnLengths 35 = .ok (.iload 4, 2) := by decide +kernel
theorem dX1_returnLengths_37 : decode cX1_returnLengths 37 = .ok (.lshl, 1) := by decide +kernel
theorem dX1_returnLengths_38 : decode cX1_returnLengths 38 = .ok (.lor, 1) := by decide +kernel
theorem dX1_returnLengths_39 : decode cX1_returnLengths 39 = .ok (.lstore_n 2, 1) := by decide +kernel
theorem dX1_returnLengths_40 : decode cX1_returnLengths 40 = .ok (.iinc 4 1, 3) := by decide +kernel
theorem dX1_returnLengths_43 : decode cX1_returnLengths 43 = .ok (.goto (-31), 3) := by decide +kernel
theorem dX1_returnLengths_46 : decode cX1_returnLengths 46 = .ok (.lload_n 2, 1) := by decide +kernel
theorem dX1_returnLengths_47 : decode cX1_returnLengths 47 = .ok (.lreturn, 1) := by decide +kernel
set_option maxRecDepth 20000 in
theorem ggX1_ringLengths_X1_returnLengths : GoodIn wsX1_ringLengths wsX1_returnLengths := goodIn_r _ [6, 7, 8, 9, 10, 5, 11, 1, 12, 13, 14, 15, 16, 17, 18, 19, 20, 21] (by decide +kernel) (by decide +kernel)
set_option maxRecDepth 20000 in
theorem gX1_ringLengths_X1_returnLengths : GoodIn wsX1_ringLengths (wsV RX1 97 RX1 yX1_returnLengths wsX1_returnLengths) := goodIn_app (goodIn_of _ (by decide +kernel)) ggX1_ringLengths_X1_returnLengths
theorem dX1_ringLengths_0 : decode cX1_ringLengths 0 = .ok (.lconst 0, 1) := by decide +kernel
theorem dX1_ringLengths_1 : decode cX1_ringLengths 1 = .ok (.lstore_n 1, 1) := by decide +kernel
theorem dX1_ringLengths_2 : decode cX1_ringLengths 2 = .ok (.iconst 0, 1) := by decide +kernel
theorem dX1_ringLengths_3 : decode cX1_ringLengths 3 = .ok (.istore_n 3, 1) := by decide +kernel
theorem dX1_ringLengths_4 : decode cX1_ringLengths 4 = .ok (.iload_n 3, 1) := by decide +kernel
theorem dX1_ringLengths_5 : decode cX1_ringLengths 5 = .ok (.aload_n 0, 1) := by decide +kernel
theorem dX1_ringLengths_6 : decode cX1_ringLengths 6 = .ok (.getfield 38, 3) := by decide +kernel
theorem dX1_ringLengths_9 : decode cX1_ringLengths 9 = .ok (.if_icmp .ge 17, 3) := by decide +kernel
theorem dX1_ringLengths_12 : decode cX1_ringLengths 12 = .ok (.lload_n 1, 1) := by decide +kernel
theorem dX1_ringLengths_13 : decode cX1_ringLengths 13 = .ok (.aload_n 0, 1) := by decide +kernel
theorem dX1_ringLengths_14 : decode cX1_ringLengths 14 = .ok (.iload_n 3, 1) := by decide +kernel
theorem dX1_ringLengths_15 : decode cX1_ringLengths 15 = .ok (.invokevirtual 97, 3) := by decide +kernel
theorem dX1_ringLengths_18 : decode cX1_ringLengths 18 = .ok (.lor, 1) := by decide +kernel
theorem dX1_ringLengths_19 : decode cX1_ringLengths 19 = .ok (.lstore_n 1, 1) := by decide +kernel
theorem dX1_ringLengths_20 : decode cX1_ringLengths 20 = .ok (.iinc 3 1, 3) := by decide +kernel
theorem dX1_ringLengths_23 : decode cX1_ringLengths 23 = .ok (.goto (-19), 3) := by decide +kernel
theorem dX1_ringLengths_26 : decode cX1_ringLengths 26 = .ok (.lload_n 1, 1) := by decide +kernel
theorem dX1_ringLengths_27 : decode cX1_ringLengths 27 = .ok (.lreturn, 1) := by decide +kernel
set_option maxRecDepth 20000 in
theorem ggX1_hasPaceOne_X1_paceOf : GoodIn wsX1_hasPaceOne wsX1_paceOf := goodIn_r _ [6, 7, 1, 8, 9, 10, 5, 11, 12, 13, 14, 15, 16, 17, 18, 19, 20, 21, 22, 23, 24, 25, 26, 27, 28, 29] (by decide +kernel) (by decide +kernel)
set_option maxRecDepth 20000 in
theorem gX1_hasPaceOne_X1_paceOf : GoodIn wsX1_hasPaceOne (wsV RX1 107 RX1 yX1_paceOf wsX1_paceOf) := goodIn_app (goodIn_of _ (by decide +kernel)) ggX1_hasPaceOne_X1_paceOf
theorem dX1_hasPaceOne_0 : decode cX1_hasPaceOne 0 = .ok (.iconst 0, 1) := by decide +kernel
theorem dX1_hasPaceOne_1 : decode cX1_hasPaceOne 1 = .ok (.istore_n 1, 1) := by decide +kernel
theorem dX1_hasPaceOne_2 : decode cX1_hasPaceOne 2 = .ok (.iload_n 1, 1) := by decide +kernel
theorem dX1_hasPaceOne_3 : decode cX1_hasPaceOne 3 = .ok (.aload_n 0, 1) := by decide +kernel
theorem dX1_hasPaceOne_4 : decode cX1_hasPaceOne 4 = .ok (.getfield 38, 3) := by decide +kernel
theorem dX1_hasPaceOne_7 : decode cX1_hasPaceOne 7 = .ok (.if_icmp .ge 20, 3) := by decide +kernel
theorem dX1_hasPaceOne_10 : decode cX1_hasPaceOne 10 = .ok (.aload_n 0, 1) := by decide +kernel
theorem dX1_hasPaceOne_11 : decode cX1_hasPaceOne 11 = .ok (.iload_n 1, 1) := by decide +kernel
theorem dX1_hasPaceOne_12 : decode cX1_hasPaceOne 12 = .ok (.invokevirtual 107, 3) := by decide +kernel
theorem dX1_hasPaceOne_15 : decode cX1_hasPaceOne 15 = .ok (.iconst 1, 1) := by decide +kernel
theorem dX1_hasPaceOne_16 : decode cX1_hasPaceOne 16 = .ok (.if_icmp .ne 5, 3) := by decide +kernel
theorem dX1_hasPaceOne_19 : decode cX1_hasPaceOne 19 = .ok (.iconst 1, 1) := by decide +kernel
theorem dX1_hasPaceOne_20 : decode cX1_hasPaceOne 20 = .ok (.ireturn, 1) := by decide +kernel
theorem dX1_hasPaceOne_21 : decode cX1_hasPaceOne 21 = .ok (.iinc 1 1, 3) := by decide +kernel
theorem dX1_hasPaceOne_24 : decode cX1_hasPaceOne 24 = .ok (.goto (-22), 3) := by decide +kernel
theorem dX1_hasPaceOne_27 : decode cX1_hasPaceOne 27 = .ok (.iconst 0, 1) := by decide +kernel
theorem dX1_hasPaceOne_28 : decode cX1_hasPaceOne 28 = .ok (.ireturn, 1) := by decide +kernel
set_option maxRecDepth 20000 in
theorem ggX1_kindOfTask_X1_ringLengths : GoodIn wsX1_kindOfTask wsX1_ringLengths := goodIn_r _ [7, 8, 9, 10, 11, 6, 12, 13, 14, 15, 16, 17, 18, 19, 20, 21, 33, 34, 35, 36, 37, 38] (by decide +kernel) (by decide +kernel)
set_option maxRecDepth 20000 in
theorem gX1_kindOfTask_X1_ringLengths : GoodIn wsX1_kindOfTask (wsV RX1 110 RX1 yX1_ringLengths wsX1_ringLengths) := goodIn_app (goodIn_of _ (by decide +kernel)) ggX1_kindOfTask_X1_ringLengths
set_option maxRecDepth 20000 in
theorem ggX1_kindOfTask_X1_hasPaceOne : GoodIn wsX1_kindOfTask wsX1_hasPaceOne := goodIn_r _ [25, 8, 26, 27, 28, 6, 29, 1, 9, 10, 11, 12, 13, 14, 15, 16, 17, 18, 19, 20, 21, 30, 31, 32, 33, 34, 35, 36, 37, 38] (by decide +kernel) (by decide +kernel)
set_option maxRecDepth 20000 in
theorem gX1_kindOfTask_X1_hasPaceOne : GoodIn wsX1_kindOfTask (wsV RX1 116 RX1 yX1_hasPaceOne wsX1_hasPaceOne) := goodIn_app (goodIn_of _ (by decide +kernel)) ggX1_kindOfTask_X1_hasPaceOne
theorem dX1_kindOfTask_0 : decode cX1_kindOfTask 0 = .ok (.aload_n 0, 1) := by decide +kernel
theorem dX1_kindOfTask_1 : decode cX1_kindOfTask 1 = .ok (.invokevirtual 110, 3) := by decide +kernel
theorem dX1_kindOfTask_4 : decode cX1_kindOfTask 4 = .ok (.ldc2_w 101, 3) := by decide +kernel
theorem dX1_kindOfTask_7 : decode cX1_kindOfTask 7 = .ok (.land, 1) := by decide +kernel
theorem dX1_kindOfTask_8 : decode cX1_kindOfTask 8 = .ok (.lstore_n 1, 1) := by decide +kernel
theorem dX1_kindOfTask_9 : decode cX1_kindOfTask 9 = .ok (.lload_n 1, 1) := by decide +kernel
theorem dX1_kindOfTask_10 : decode cX1_kindOfTask 10 = .ok (.lconst 0, 1) := by decide +kernel
theorem dX1_kindOfTask_11 : decode cX1_kindOfTask 11 = .ok (.lcmp, 1) := by decide +kernel
theorem dX1_kindOfTask_12 : decode cX1_kindOfTask 12 = .ok (.ifCond .ne 5, 3) := by decide +kernel
theorem dX1_kindOfTask_15 : decode cX1_kindOfTask 15 = .ok (.iconst 0, 1) := by decide +kernel
theorem dX1_kindOfTask_16 : decode cX1_kindOfTask 16 = .ok (.ireturn, 1) := by decide +kernel
theorem dX1_kindOfTask_17 : decode cX1_kindOfTask 17 = .ok (.lload_n 1, 1) := by decide +kernel
theorem dX1_kindOfTask_18 : decode cX1_kindOfTask 18 = .ok (.ldc2_w 114, 3) := by decide +kernel
theorem dX1_kindOfTask_21 : decode cX1_kindOfTask 21 = .ok (.land, 1) := by decide +kernel
theorem dX1_kindOfTask_22 : decode cX1_kindOfTask 22 = .ok (.lconst 0, 1) := by decide +kernel
theorem dX1_kindOfTask_23 : decode cX1_kindOfTask 23 = .ok (.lcmp, 1) := by decide +kernel
theorem dX1_kindOfTask_24 : decode cX1_kindOfTask 24 = .ok (.ifCond .eq 5, 3) := by decide +kernel
theorem dX1_kindOfTask_27 : decode cX1_kindOfTask 27 = .ok (.iconst 1, 1) := by decide +kernel
theorem dX1_kindOfTask_28 : decode cX1_kindOfTask 28 = .ok (.ireturn, 1) := by decide +kernel
theorem dX1_kindOfTask_29 : decode cX1_kindOfTask 29 = .ok (.aload_n 0, 1) := by decide +kernel
theorem dX1_kindOfTask_30 : decode cX1_kindOfTask 30 = .ok (.invokevirtual 116, 3) := by decide +kernel
theorem dX1_kindOfTask_33 : decode cX1_kindOfTask 33 = .ok (.ifCond .eq 7, 3) := by decide +kernel
theorem dX1_kindOfTask_36 : decode cX1_kindOfTask 36 = .ok (.iconst 2, 1) := by decide +kernel
theorem dX1_kindOfTask_37 : decode cX1_kindOfTask 37 = .ok (.goto 4, 3) := by decide +kernel
theorem dX1_kindOfTask_40 : decode cX1_kindOfTask 40 = .ok (.iconst 3, 1) := by decide +kernel
theorem dX1_kindOfTask_41 : decode cX1_kindOfTask 41 = .ok (.ireturn, 1) := by decide +kernel
set_option maxRecDepth 20000 in
theorem ggX1_isMirrored_X1_mayFollow : GoodIn wsX1_isMirrored wsX1_mayFollow := goodIn_r _ [6, 7, 8, 9, 10, 5, 11, 1, 12, 13, 14, 23, 24, 25, 26, 27, 28] (by decide +kernel) (by decide +kernel)
set_option maxRecDepth 20000 in
theorem gX1_isMirrored_X1_mayFollow : GoodIn wsX1_isMirrored (wsV RX1 74 RX1 yX1_mayFollow wsX1_mayFollow) := goodIn_app (goodIn_of _ (by decide +kernel)) ggX1_isMirrored_X1_mayFollow
set_option maxRecDepth 20000 in
theorem ggX1_isMirrored_X1_leastOfBlock : GoodIn wsX1_isMirrored wsX1_leastOfBlock := goodIn_r _ [18, 19, 20, 21, 5, 22, 1, 7, 12, 13, 14, 23, 24, 25, 26, 27, 28] (by decide +kernel) (by decide +kernel)
set_option maxRecDepth 20000 in
theorem gX1_isMirrored_X1_leastOfBlock : GoodIn wsX1_isMirrored (wsV RX1 120 RX1 yX1_leastOfBlock wsX1_leastOfBlock) := goodIn_app (goodIn_of _ (by decide +kernel)) ggX1_isMirrored_X1_leastOfBlock
theorem dX1_isMirrored_0 : decode cX1_isMirrored 0 = .ok (.iconst 0, 1) := by decide +kernel
theorem dX1_isMirrored_1 : decode cX1_isMirrored 1 = .ok (.istore_n 1, 1) := by decide +kernel
theorem dX1_isMirrored_2 : decode cX1_isMirrored 2 = .ok (.iload_n 1, 1) := by decide +kernel
theorem dX1_isMirrored_3 : decode cX1_isMirrored 3 = .ok (.aload_n 0, 1) := by decide +kernel
theorem dX1_isMirrored_4 : decode cX1_isMirrored 4 = .ok (.getfield 38, 3) := by decide +kernel
theorem dX1_isMirrored_7 : decode cX1_isMirrored 7 = .ok (.if_icmp .ge 62, 3) := by decide +kernel
theorem dX1_isMirrored_10 : decode cX1_isMirrored 10 = .ok (.iconst 0, 1) := by decide +kernel
theorem dX1_isMirrored_11 : decode cX1_isMirrored 11 = .ok (.istore_n 2, 1) := by decide +kernel
theorem dX1_isMirrored_12 : decode cX1_isMirrored 12 = .ok (.iload_n 2, 1) := by decide +kernel
theorem dX1_isMirrored_13 : decode cX1_isMirrored 13 = .ok (.iload_n 1, 1) := by decide +kernel
theorem dX1_isMirrored_14 : decode cX1_isMirrored 14 = .ok (.if_icmp .ge 49, 3) := by decide +kernel
theorem dX1_isMirrored_17 : decode cX1_isMirrored 17 = .ok (.aload_n 0, 1) := by decide +kernel
theorem dX1_isMirrored_18 : decode cX1_isMirrored 18 = .ok (.iload_n 1, 1) := by decide +kernel
theorem dX1_isMirrored_19 : decode cX1_isMirrored 19 = .ok (.iload_n 2, 1) := by decide +kernel
theorem dX1_isMirrored_20 : decode cX1_isMirrored 20 = .ok (.invokevirtual 74, 3) := by decide +kernel
theorem dX1_isMirrored_23 : decode cX1_isMirrored 23 = .ok (.aload_n 0, 1) := by decide +kernel
theorem dX1_isMirrored_24 : decode cX1_isMirrored 24 = .ok (.iload_n 2, 1) := by decide +kernel
theorem dX1_isMirrored_25 : decode cX1_isMirrored 25 = .ok (.iload_n 1, 1) := by decide +kernel
theorem dX1_isMirrored_26 : decode cX1_isMirrored 26 = .ok (.invokevirtual 74, 3) := by decide +kernel
theorem dX1_isMirrored_29 : decode cX1_isMirrored 29 = .ok (.if_icmp .eq 7, 3) := by decide +kernel
theorem dX1_isMirrored_32 : decode cX1_isMirrored 32 = .ok (.iconst 1, 1) := by decide +kernel
theorem dX1_isMirrored_33 : decode cX1_isMirrored 33 = .ok (.goto 4, 3) := by decide +kernel
theorem dX1_isMirrored_36 : decode cX1_isMirrored 36 = .ok (.iconst 0, 1) := by decide +kernel
theorem dX1_isMirrored_37 : decode cX1_isMirrored 37 = .ok (.istore_n 3, 1) := by decide +kernel
theorem dX1_isMirrored_38 : decode cX1_isMirrored 38 = .ok (.iload_n 3, 1) := by decide +kernel
theorem dX1_isMirrored_39 : decode cX1_isMirrored 39 = .ok (.ifCond .eq 18, 3) := by decide +kernel
theorem dX1_isMirrored_42 : decode cX1_isMirrored 42 = .ok (.aload_n 0, 1) := by decide +kernel
theorem dX1_isMirrored_43 : decode cX1_isMirrored 43 = .ok (.iload_n 1, 1) := by decide +kernel
theorem dX1_isMirrored_44 : decode cX1_isMirrored 44 = .ok (.invokevirtual 120, 3) := by decide +kernel
theorem dX1_isMirrored_47 : decode cX1_isMirrored 47 = .ok (.aload_n 0, 1) := by decide +kernel
theorem dX1_isMirrored_48 : decode cX1_isMirrored 48 = .ok (.iload_n 2, 1) := by decide +kernel
theorem dX1_isMirrored_49 : decode cX1_isMirrored 49 = .ok (.invokevirtual 120, 3) := by decide +kernel
theorem dX1_isMirrored_52 : decode cX1_isMirrored 52 = .ok (.if_icmp .ne 5, 3) := by decide +kernel
theorem dX1_isMirrored_55 : decode cX1_isMirrored 55 = .ok (.iconst 0, 1) := by decide +kernel
theorem dX1_isMirrored_56 : decode cX1_isMirrored 56 = .ok (.ireturn, 1) := by decide +kernel
theorem dX1_isMirrored_57 : decode cX1_isMirrored 57 = .ok (.iinc 2 1, 3) := by decide +kernel
theorem dX1_isMirrored_60 : decode cX1_isMirrored 60 = .ok (.goto (-48), 3) := by decide +kernel
theorem dX1_isMirrored_63 : decode cX1_isMirrored 63 = .ok (.iinc 1 1, 3) := by decide +kernel
theorem dX1_isMirrored_66 : decode cX1_isMirrored 66 = .ok (.goto (-64), 3) := by decide +kernel
theorem dX1_isMirrored_69 : decode cX1_isMirrored 69 = .ok (.iconst 1, 1) := by decide +kernel
theorem dX1_isMirrored_70 : decode cX1_isMirrored 70 = .ok (.ireturn, 1) := by decide +kernel
theorem dX1_holds_0 : decode cX1_holds 0 = .ok (.iload_n 0, 1) := by decide +kernel
theorem dX1_holds_1 : decode cX1_holds 1 = .ok (.iload_n 1, 1) := by decide +kernel
theorem dX1_holds_2 : decode cX1_holds 2 = .ok (.ishr, 1) := by decide +kernel
theorem dX1_holds_3 : decode cX1_holds 3 = .ok (.iconst 1, 1) := by decide +kernel
theorem dX1_holds_4 : decode cX1_holds 4 = .ok (.iand, 1) := by decide +kernel
theorem dX1_holds_5 : decode cX1_holds 5 = .ok (.iconst 1, 1) := by decide +kernel
theorem dX1_holds_6 : decode cX1_holds 6 = .ok (.if_icmp .ne 7, 3) := by decide +kernel
theorem dX1_holds_9 : decode cX1_holds 9 = .ok (.iconst 1, 1) := by decide +kernel
theorem dX1_holds_10 : decode cX1_holds 10 = .ok (.goto 4, 3) := by decide +kernel
theorem dX1_holds_13 : decode cX1_holds 13 = .ok (.iconst 0, 1) := by decide +kernel
theorem dX1_holds_14 : decode cX1_holds 14 = .ok (.ireturn, 1) := by decide +kernel
set_option maxRecDepth 20000 in
theorem ggX1_least_X1_holds : GoodIn wsX1_least wsX1_holds := goodIn_r _ [4] (by decide +kernel) (by decide +kernel)
set_option maxRecDepth 20000 in
theorem gX1_least_X1_holds : GoodIn wsX1_least (va_wsS RX1 46 yX1_holds wsX1_holds) := goodIn_app (goodIn_of _ (by decide +kernel)) ggX1_least_X1_holds
theorem dX1_least_0 : decode cX1_least 0 = .ok (.iconst 0, 1) := by decide +kernel
theorem dX1_least_1 : decode cX1_least 1 = .ok (.istore_n 1, 1) := by decide +kernel
theorem dX1_least_2 : decode cX1_least 2 = .ok (.iload_n 1, 1) := by decide +kernel
theorem dX1_least_3 : decode cX1_least 3 = .ok (.iconst 5, 1) := by decide +kernel
theorem dX1_least_4 : decode cX1_least 4 = .ok (.if_icmp .ge 17, 3) := by decide +kernel
theorem dX1_least_7 : decode cX1_least 7 = .ok (.iload_n 0, 1) := by decide +kernel
theorem dX1_least_8 : decode cX1_least 8 = .ok (.iload_n 1, 1) := by decide +kernel
theorem dX1_least_9 : decode cX1_least 9 = .ok (.invokestatic 46, 3) := by decide +kernel
theorem dX1_least_12 : decode cX1_least 12 = .ok (.ifCond .ne 9, 3) := by decide +kernel
theorem dX1_least_15 : decode cX1_least 15 = .ok (.iinc 1 1, 3) := by decide +kernel
theorem dX1_least_18 : decode cX1_least 18 = .ok (.goto (-16), 3) := by decide +kernel
theorem dX1_least_21 : decode cX1_least 21 = .ok (.iload_n 1, 1) := by decide +kernel
theorem dX1_least_22 : decode cX1_least 22 = .ok (.ireturn, 1) := by decide +kernel
set_option maxRecDepth 20000 in
theorem ggX2_init_X1_init : GoodIn wsX2_init wsX1_init := goodIn_r _ [14, 15, 2, 3, 16, 17, 18, 19, 20, 21, 22, 23, 24, 25, 6, 26, 27, 28, 29, 30, 31, 52, 53, 54, 55, 56, 57] (by decide +kernel) (by decide +kernel)
set_option maxRecDepth 20000 in
theorem gX2_init_X1_init : GoodIn wsX2_init (wsX1_init) := ggX2_init_X1_init
set_option maxRecDepth 20000 in
theorem ggX2_init_X0_init : GoodIn wsX2_init wsX0_init := goodIn_r _ [34, 35, 2, 3, 16, 36, 37, 38, 39, 40, 10, 41, 42, 28, 29, 30, 43, 44, 45, 46, 47, 48, 49, 50, 51, 60, 61, 62] (by decide +kernel) (by decide +kernel)
set_option maxRecDepth 20000 in
theorem gX2_init_X0_init : GoodIn wsX2_init (wsX0_init) := ggX2_init_X0_init
theorem dX2_init_0 : decode cX2_init 0 = .ok (.aload_n 0, 1) := by decide +kernel
theorem dX2_init_1 : decode cX2_init 1 = .ok (.invokespecial 1, 3) := by decide +kernel
theorem dX2_init_4 : decode cX2_init 4 = .ok (.aload_n 0, 1) := by decide +kernel
theorem dX2_init_5 : decode cX2_init 5 = .ok (.new 7, 3) := by decide +kernel
theorem dX2_init_8 : decode cX2_init 8 = .ok (.dup, 1) := by decide +kernel
theorem dX2_init_9 : decode cX2_init 9 = .ok (.iconst 3, 1) := by decide +kernel
theorem dX2_init_10 : decode cX2_init 10 = .ok (.invokespecial 9, 3) := by decide +kernel
theorem dX2_init_13 : decode cX2_init 13 = .ok (.putfield 12, 3) := by decide +kernel
theorem dX2_init_16 : decode cX2_init 16 = .ok (.aload_n 0, 1) := by decide +kernel
theorem dX2_init_17 : decode cX2_init 17 = .ok (.new 18, 3) := by decide +kernel
theorem dX2_init_20 : decode cX2_init 20 = .ok (.dup, 1) := by decide +kernel
theorem dX2_init_21 : decode cX2_init 21 = .ok (.iconst 3, 1) := by decide +kernel
theorem dX2_init_22 : decode cX2_init 22 = .ok (.invokespecial 20, 3) := by decide +kernel
theorem dX2_init_25 : decode cX2_init 25 = .ok (.putfield 21, 3) := by decide +kernel
theorem dX2_init_28 : decode cX2_init 28 = .ok (.return_, 1) := by decide +kernel
set_option maxRecDepth 20000 in
theorem ggX2_labels_X1_restart : GoodIn wsX2_labels wsX1_restart := goodIn_r _ [8, 9, 10, 11, 12, 13, 14, 27, 28, 29, 30, 31, 32] (by decide +kernel) (by decide +kernel)
set_option maxRecDepth 20000 in
theorem gX2_labels_X1_restart : GoodIn wsX2_labels (wsV RX2 29 RX1 yX1_restart wsX1_restart) := goodIn_app (goodIn_of _ (by decide +kernel)) ggX2_labels_X1_restart
set_option maxRecDepth 20000 in
theorem ggX2_labels_X0_clearLabels : GoodIn wsX2_labels wsX0_clearLabels := goodIn_r _ [19, 20, 21, 22, 23, 24, 33, 34, 35] (by decide +kernel) (by decide +kernel)
set_option maxRecDepth 20000 in
theorem gX2_labels_X0_clearLabels : GoodIn wsX2_labels (wsV RX2 32 RX0 yX0_clearLabels wsX0_clearLabels) := goodIn_app (goodIn_of _ (by decide +kernel)) ggX2_labels_X0_clearLabels
theorem dX2_labels_0 : decode cX2_labels 0 = .ok (.iload_n 1, 1) := by decide +kernel
theorem dX2_labels_1 : decode cX2_labels 1 = .ok (.iconst 1, 1) := by decide +kernel
theorem dX2_labels_2 : decode cX2_labels 2 = .ok (.if_icmp .lt 9, 3) := by decide +kernel
theorem dX2_labels_5 : decode cX2_labels 5 = .ok (.iload_n 1, 1) := by decide +kernel
theorem dX2_labels_6 : decode cX2_labels 6 = .ok (.bipush 6, 2) := by decide +kernel
theorem dX2_labels_8 : decode cX2_labels 8 = .ok (.if_icmp .le 6, 3) := by decide +kernel
theorem dX2_labels_11 : decode cX2_labels 11 = .ok (.bipush (-2), 2) := by decide +kernel
theorem dX2_labels_13 : decode cX2_labels 13 = .ok (.ireturn, 1) := by decide +kernel
theorem dX2_labels_14 : decode cX2_labels 14 = .ok (.aload_n 0, 1) := by decide +kernel
theorem dX2_labels_15 : decode cX2_labels 15 = .ok (.getfield 12, 3) := by decide +kernel
theorem dX2_labels_18 : decode cX2_labels 18 = .ok (.getfield 25, 3) := by decide +kernel
theorem dX2_labels_21 : decode cX2_labels 21 = .ok (.istore_n 2, 1) := by decide +kernel
theorem dX2_labels_22 : decode cX2_labels 22 = .ok (.aload_n 0, 1) := by decide +kernel
theorem dX2_labels_23 : decode cX2_labels 23 = .ok (.getfield 12, 3) := by decide +kernel
theorem dX2_labels_26 : decode cX2_labels 26 = .ok (.iload_n 1, 1) := by decide +kernel
theorem dX2_labels_27 : decode cX2_labels 27 = .ok (.invokevirtual 29, 3) := by decide +kernel
theorem dX2_labels_30 : decode cX2_labels 30 = .ok (.aload_n 0, 1) := by decide +kernel
theorem dX2_labels_31 : decode cX2_labels 31 = .ok (.getfield 21, 3) := by decide +kernel
theorem dX2_labels_34 : decode cX2_labels 34 = .ok (.invokevirtual 32, 3) := by decide +kernel
theorem dX2_labels_37 : decode cX2_labels 37 = .ok (.iload_n 2, 1) := by decide +kernel
theorem dX2_labels_38 : decode cX2_labels 38 = .ok (.ireturn, 1) := by decide +kernel
set_option maxRecDepth 20000 in
theorem ggX2_allow_X1_has : GoodIn wsX2_allow wsX1_has := goodIn_r _ [6, 7, 27, 28, 29, 30, 31, 32] (by decide +kernel) (by decide +kernel)
set_option maxRecDepth 20000 in
theorem gX2_allow_X1_has : GoodIn wsX2_allow (wsV RX2 35 RX1 yX1_has wsX1_has) := goodIn_app (goodIn_of _ (by decide +kernel)) ggX2_allow_X1_has
set_option maxRecDepth 20000 in
theorem ggX2_allow_X1_mayFollow : GoodIn wsX2_allow wsX1_mayFollow := goodIn_r _ [11, 12, 13, 3, 4, 5, 6, 7, 14, 15, 16, 27, 28, 29, 30, 31, 32] (by decide +kernel) (by decide +kernel)
set_option maxRecDepth 20000 in
theorem gX2_allow_X1_mayFollow : GoodIn wsX2_allow (wsV RX2 39 RX1 yX1_mayFollow wsX1_mayFollow) := goodIn_app (goodIn_of _ (by decide +kernel)) ggX2_allow_X1_mayFollow
set_option maxRecDepth 20000 in
theorem ggX2_allow_X2_asNumber : GoodIn wsX2_allow wsX2_asNumber := goodIn_r _ [20] (by decide +kernel) (by decide +kernel)
set_option maxRecDepth 20000 in
theorem gX2_allow_X2_asNumber : GoodIn wsX2_allow (va_wsS RX2 43 yX2_asNumber wsX2_asNumber) := goodIn_app (goodIn_of _ (by decide +kernel)) ggX2_allow_X2_asNumber
set_option maxRecDepth 20000 in
theorem ggX2_allow_X1_decide : GoodIn wsX2_allow wsX1_decide := goodIn_r _ [24, 12, 13, 3, 4, 5, 6, 7, 27, 28, 29, 30, 31, 32] (by decide +kernel) (by decide +kernel)
set_option maxRecDepth 20000 in
theorem gX2_allow_X1_decide : GoodIn wsX2_allow (wsV RX2 47 RX1 yX1_decide wsX1_decide) := goodIn_app (goodIn_of _ (by decide +kernel)) ggX2_allow_X1_decide
theorem dX2_allow_0 : decode cX2_allow 0 = .ok (.aload_n 0, 1) := by decide +kernel
theorem dX2_allow_1 : decode cX2_allow 1 = .ok (.getfield 12, 3) := by decide +kernel
theorem dX2_allow_4 : decode cX2_allow 4 = .ok (.iload_n 1, 1) := by decide +kernel
theorem dX2_allow_5 : decode cX2_allow 5 = .ok (.invokevirtual 35, 3) := by decide +kernel
theorem dX2_allow_8 : decode cX2_allow 8 = .ok (.ifCond .eq 14, 3) := by decide +kernel
theorem dX2_allow_11 : decode cX2_allow 11 = .ok (.aload_n 0, 1) := by decide +kernel
theorem dX2_allow_12 : decode cX2_allow 12 = .ok (.getfield 12, 3) := by decide +kernel
theorem dX2_allow_15 : decode cX2_allow 15 = .ok (.iload_n 2, 1) := by decide +kernel
theorem dX2_allow_16 : decode cX2_allow 16 = .ok (.invokevirtual 35, 3) := by decide +kernel
theorem dX2_allow_19 : decode cX2_allow 19 = .ok (.ifCond .ne 5, 3) := by decide +kernel
theorem dX2_allow_22 : decode cX2_allow 22 = .ok (.iconst (-1), 1) := by decide +kernel
theorem dX2_allow_23 : decode cX2_allow 23 = .ok (.ireturn, 1) := by decide +kernel
theorem dX2_allow_24 : decode cX2_allow 24 = .ok (.aload_n 0, 1) := by decide +kernel
theorem dX2_allow_25 : decode cX2_allow 25 = .ok (.getfield 12, 3) := by decide +kernel
theorem dX2_allow_28 : decode cX2_allow 28 = .ok (.iload_n 1, 1) := by decide +kernel
theorem dX2_allow_29 : decode cX2_allow 29 = .ok (.iload_n 2, 1) := by decide +kernel
theorem dX2_allow_30 : decode cX2_allow 30 = .ok (.invokevirtual 39, 3) := by decide +kernel
theorem dX2_allow_33 : decode cX2_allow 33 = .ok (.invokestatic 43, 3) := by decide +kernel
theorem dX2_allow_36 : decode cX2_allow 36 = .ok (.istore 4, 2) := by decide +kernel
theorem dX2_allow_38 : decode cX2_allow 38 = .ok (.aload_n 0, 1) := by decide +kernel
theorem dX2_allow_39 : decode cX2_allow 39 = .ok (.getfield 12, 3) := by decide +kernel
theorem dX2_allow_42 : decode cX2_allow 42 = .ok (.iload_n 1, 1) := by decide +kernel
theorem dX2_allow_43 : decode cX2_allow 43 = .ok (.iload_n 2, 1) := by decide +kernel
theorem dX2_allow_44 : decode cX2_allow 44 = .ok (.iload_n 3, 1) := by decide +kernel
theorem dX2_allow_45 : decode cX2_allow 45 = .ok (.invokevirtual 47, 3) := by decide +kernel
theorem dX2_allow_48 : decode cX2_allow 48 = .ok (.iload 4, 2) := by decide +kernel
theorem dX2_allow_50 : decode cX2_allow 50 = .ok (.ireturn, 1) := by decide +kernel
set_option maxRecDepth 20000 in
theorem ggX2_may_X1_has : GoodIn wsX2_may wsX1_has := goodIn_r _ [6, 7, 23, 24, 25, 26, 27, 28] (by decide +kernel) (by decide +kernel)
set_option maxRecDepth 20000 in
theorem gX2_may_X1_has : GoodIn wsX2_may (wsV RX2 35 RX1 yX1_has wsX1_has) := goodIn_app (goodIn_of _ (by decide +kernel)) ggX2_may_X1_has
set_option maxRecDepth 20000 in
theorem ggX2_may_X1_mayFollow : GoodIn wsX2_may wsX1_mayFollow := goodIn_r _ [11, 12, 13, 3, 4, 5, 6, 7, 14, 15, 16, 23, 24, 25, 26, 27, 28] (by decide +kernel) (by decide +kernel)
set_option maxRecDepth 20000 in
theorem gX2_may_X1_mayFollow : GoodIn wsX2_may (wsV RX2 39 RX1 yX1_mayFollow wsX1_mayFollow) := goodIn_app (goodIn_of _ (by decide +kernel)) ggX2_may_X1_mayFollow
set_option maxRecDepth 20000 in
theorem ggX2_may_X2_asNumber : GoodIn wsX2_may wsX2_asNumber := goodIn_r _ [20] (by decide +kernel) (by decide +kernel)
set_option maxRecDepth 20000 in
theorem gX2_may_X2_asNumber : GoodIn wsX2_may (va_wsS RX2 43 yX2_asNumber wsX2_asNumber) := goodIn_app (goodIn_of _ (by decide +kernel)) ggX2_may_X2_asNumber
theorem dX2_may_0 : decode cX2_may 0 = .ok (.aload_n 0, 1) := by decide +kernel
theorem dX2_may_1 : decode cX2_may 1 = .ok (.getfield 12, 3) := by decide +kernel
theorem dX2_may_4 : decode cX2_may 4 = .ok (.iload_n 1, 1) := by decide +kernel
theorem dX2_may_5 : decode cX2_may 5 = .ok (.invokevirtual 35, 3) := by decide +kernel
theorem dX2_may_8 : decode cX2_may 8 = .ok (.ifCond .eq 14, 3) := by decide +kernel
theorem dX2_may_11 : decode cX2_may 11 = .ok (.aload_n 0, 1) := by decide +kernel
theorem dX2_may_12 : decode cX2_may 12 = .ok (.getfield 12, 3) := by decide +kernel
theorem dX2_may_15 : decode cX2_may 15 = .ok (.iload_n 2, 1) := by decide +kernel
theorem dX2_may_16 : decode cX2_may 16 = .ok (.invokevirtual 35, 3) := by decide +kernel
theorem dX2_may_19 : decode cX2_may 19 = .ok (.ifCond .ne 5, 3) := by decide +kernel
theorem dX2_may_22 : decode cX2_may 22 = .ok (.iconst (-1), 1) := by decide +kernel
theorem dX2_may_23 : decode cX2_may 23 = .ok (.ireturn, 1) := by decide +kernel
theorem dX2_may_24 : decode cX2_may 24 = .ok (.aload_n 0, 1) := by decide +kernel
theorem dX2_may_25 : decode cX2_may 25 = .ok (.getfield 12, 3) := by decide +kernel
theorem dX2_may_28 : decode cX2_may 28 = .ok (.iload_n 1, 1) := by decide +kernel
theorem dX2_may_29 : decode cX2_may 29 = .ok (.iload_n 2, 1) := by decide +kernel
theorem dX2_may_30 : decode cX2_may 30 = .ok (.invokevirtual 39, 3) := by decide +kernel
theorem dX2_may_33 : decode cX2_may 33 = .ok (.invokestatic 43, 3) := by decide +kernel
theorem dX2_may_36 : decode cX2_may 36 = .ok (.ireturn, 1) := by decide +kernel
set_option maxRecDepth 20000 in
theorem ggX2_rings_X2_isRingSize : GoodIn wsX2_rings wsX2_isRingSize := goodIn_r _ [6] (by decide +kernel) (by decide +kernel)
set_option maxRecDepth 20000 in
theorem gX2_rings_X2_isRingSize : GoodIn wsX2_rings (va_wsS RX2 51 yX2_isRingSize wsX2_isRingSize) := goodIn_app (goodIn_of _ (by decide +kernel)) ggX2_rings_X2_isRingSize
set_option maxRecDepth 20000 in
theorem ggX2_rings_X1_ringCount : GoodIn wsX2_rings wsX1_ringCount := goodIn_r _ [11, 12, 13, 14, 15, 16, 17, 18, 19, 20, 10, 21, 22, 23, 24, 25, 26, 27, 28, 29, 30, 31, 32, 33, 34, 35, 36, 37, 38, 39, 40, 41, 42, 43, 44, 45, 46, 47, 50, 51, 52, 53, 54, 55] (by decide +kernel) (by decide +kernel)
set_option maxRecDepth 20000 in
theorem gX2_rings_X1_ringCount : GoodIn wsX2_rings (wsV RX2 56 RX1 yX1_ringCount wsX1_ringCount) := goodIn_app (goodIn_of _ (by decide +kernel)) ggX2_rings_X1_ringCount
theorem dX2_rings_0 : decode cX2_rings 0 = .ok (.iload_n 1, 1) := by decide +kernel
theorem dX2_rings_1 : decode cX2_rings 1 = .ok (.invokestatic 51, 3) := by decide +kernel
theorem dX2_rings_4 : decode cX2_rings 4 = .ok (.ifCond .ne 7, 3) := by decide +kernel
theorem dX2_rings_7 : decode cX2_rings 7 = .ok (.ldc2_w 54, 3) := by decide +kernel
theorem dX2_rings_10 : decode cX2_rings 10 = .ok (.lreturn, 1) := by decide +kernel
theorem dX2_rings_11 : decode cX2_rings 11 = .ok (.aload_n 0, 1) := by decide +kernel
theorem dX2_rings_12 : decode cX2_rings 12 = .ok (.getfield 12, 3) := by decide +kernel
theorem dX2_rings_15 : decode cX2_rings 15 = .ok (.iload_n 1, 1) := by decide +kernel
theorem dX2_rings_16 : decode cX2_rings 16 = .ok (.invokevirtual 56, 3) := by decide +kernel
theorem dX2_rings_19 : decode cX2_rings 19 = .ok (.lreturn, 1) := by decide +kernel
set_option maxRecDepth 20000 in
theorem ggX2_first_X2_isRingSize : GoodIn wsX2_first wsX2_isRingSize := goodIn_r _ [6] (by decide +kernel) (by decide +kernel)
set_option maxRecDepth 20000 in
theorem gX2_first_X2_isRingSize : GoodIn wsX2_first (va_wsS RX2 51 yX2_isRingSize wsX2_isRingSize) := goodIn_app (goodIn_of _ (by decide +kernel)) ggX2_first_X2_isRingSize
set_option maxRecDepth 20000 in
theorem ggX2_first_X1_findRing : GoodIn wsX2_first wsX1_findRing := goodIn_r _ [11, 12, 13, 14, 15, 10, 16, 17, 18, 19, 20, 21, 22, 23, 24, 25, 26, 27, 28, 29, 30, 31, 32, 33, 36, 37, 38, 39, 40, 41] (by decide +kernel) (by decide +kernel)
set_option maxRecDepth 20000 in
theorem gX2_first_X1_findRing : GoodIn wsX2_first (wsV RX2 60 RX1 yX1_findRing wsX1_findRing) := goodIn_app (goodIn_of _ (by decide +kernel)) ggX2_first_X1_findRing
theorem dX2_first_0 : decode cX2_first 0 = .ok (.iload_n 1, 1) := by decide +kernel
theorem dX2_first_1 : decode cX2_first 1 = .ok (.invokestatic 51, 3) := by decide +kernel
theorem dX2_first_4 : decode cX2_first 4 = .ok (.ifCond .ne 6, 3) := by decide +kernel
theorem dX2_first_7 : decode cX2_first 7 = .ok (.bipush (-2), 2) := by decide +kernel
theorem dX2_first_9 : decode cX2_first 9 = .ok (.ireturn, 1) := by decide +kernel
theorem dX2_first_10 : decode cX2_first 10 = .ok (.iload_n 2, 1) := by decide +kernel
theorem dX2_first_11 : decode cX2_first 11 = .ok (.ifCond .lt 8, 3) := by decide +kernel
theorem dX2_first_14 : decode cX2_first 14 = .ok (.iload_n 2, 1) := by decide +kernel
theorem dX2_first_15 : decode cX2_first 15 = .ok (.iload_n 1, 1) := by decide +kernel
theorem dX2_first_16 : decode cX2_first 16 = .ok (.if_icmp .lt 5, 3) := by decide +kernel
theorem dX2_first_19 : decode cX2_first 19 = .ok (.iconst (-1), 1) := by decide +kernel
theorem dX2_first_20 : decode cX2_first 20 = .ok (.ireturn, 1) := by decide +kernel
theorem dX2_first_21 : decode cX2_first 21 = .ok (.aload_n 0, 1) := by decide +kernel
theorem dX2_first_22 : decode cX2_first 22 = .ok (.getfield 12, 3) := by decide +kernel
theorem dX2_first_25 : decode cX2_first 25 = .ok (.iload_n 1, 1) := by decide +kernel
theorem dX2_first_26 : decode cX2_first 26 = .ok (.invokevirtual 60, 3) := by decide +kernel
theorem dX2_first_29 : decode cX2_first 29 = .ok (.ifCond .eq 15, 3) := by decide +kernel
theorem dX2_first_32 : decode cX2_first 32 = .ok (.aload_n 0, 1) := by decide +kernel
theorem dX2_first_33 : decode cX2_first 33 = .ok (.getfield 12, 3) := by decide +kernel
theorem dX2_first_36 : decode cX2_first 36 = .ok (.getfield 63, 3) := by decide +kernel
theorem dX2_first_39 : decode cX2_first 39 = .ok (.iload_n 2, 1) := by decide +kernel
theorem dX2_first_40 : decode cX2_first 40 = .ok (.iaload, 1) := by decide +kernel
theorem dX2_first_41 : decode cX2_first 41 = .ok (.goto 5, 3) := by decide +kernel
theorem dX2_first_44 : decode cX2_first 44 = .ok (.bipush (-9), 2) := by decide +kernel
theorem dX2_first_46 : decode cX2_first 46 = .ok (.ireturn, 1) := by decide +kernel
