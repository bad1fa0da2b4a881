set_option maxRecDepth 20000 in
theorem ggX3_mend_X3_isPost : GoodIn wsX3_mend wsX3_isPost := goodIn_r _ [8, 1, 9, 10, 7, 11, 40, 41, 42, 43, 44, 45, 46, 47, 48] (by decide +kernel) (by decide +kernel)
set_option maxRecDepth 20000 in
theorem gX3_mend_X3_isPost : GoodIn wsX3_mend (wsV RX3 105 RX3 yX3_isPost wsX3_isPost) := goodIn_app (goodIn_of _ (by decide +kernel)) ggX3_mend_X3_isPost
set_option maxRecDepth 20000 in
theorem ggX3_mend_X3_layLeads : GoodIn wsX3_mend wsX3_layLeads := goodIn_r _ [15, 16, 17, 18, 19, 40, 41, 42, 43, 44, 45, 46, 47, 48] (by decide +kernel) (by decide +kernel)
set_option maxRecDepth 20000 in
theorem gX3_mend_X3_layLeads : GoodIn wsX3_mend (wsV RX3 74 RX3 yX3_layLeads wsX3_layLeads) := goodIn_app (goodIn_of _ (by decide +kernel)) ggX3_mend_X3_layLeads
set_option maxRecDepth 20000 in
theorem ggX3_mend_X3_layBetween : GoodIn wsX3_mend wsX3_layBetween := goodIn_r _ [23, 1, 2, 3, 24, 25, 26, 7, 27, 17, 12, 13, 14, 15, 16, 18, 19, 28, 29, 30, 31, 32, 33, 34, 35, 36, 37, 38, 39, 40, 41, 42, 43, 44, 45, 46, 47, 48] (by decide +kernel) (by decide +kernel)
set_option maxRecDepth 20000 in
theorem gX3_mend_X3_layBetween : GoodIn wsX3_mend (wsV RX3 114 RX3 yX3_layBetween wsX3_layBetween) := goodIn_app (goodIn_of _ (by decide +kernel)) ggX3_mend_X3_layBetween
set_option maxRecDepth 20000 in
theorem ggX3_mend_X3_place : GoodIn wsX3_mend wsX3_place := goodIn_r _ [39, 1, 40, 41, 42, 43, 44, 45, 46, 47, 48] (by decide +kernel) (by decide +kernel)
set_option maxRecDepth 20000 in
theorem gX3_mend_X3_place : GoodIn wsX3_mend (wsV RX3 108 RX3 yX3_place wsX3_place) := goodIn_app (goodIn_of _ (by decide +kernel)) ggX3_mend_X3_place
theorem dX3_mend_0 : decode cX3_mend 0 = .ok (.aload_n 0, 1) := by decide +kernel
theorem dX3_mend_1 : decode cX3_mend 1 = .ok (.iload_n 1, 1) := by decide +kernel
theorem dX3_mend_2 : decode cX3_mend 2 = .ok (.invokevirtual 105, 3) := by decide +kernel
theorem dX3_mend_5 : decode cX3_mend 5 = .ok (.ifCond .ne 5, 3) := by decide +kernel
theorem dX3_mend_8 : decode cX3_mend 8 = .ok (.iconst (-1), 1) := by decide +kernel
theorem dX3_mend_9 : decode cX3_mend 9 = .ok (.ireturn, 1) := by decide +kernel
theorem dX3_mend_10 : decode cX3_mend 10 = .ok (.aload_n 0, 1) := by decide +kernel
theorem dX3_mend_11 : decode cX3_mend 11 = .ok (.invokevirtual 74, 3) := by decide +kernel
theorem dX3_mend_14 : decode cX3_mend 14 = .ok (.iconst 0, 1) := by decide +kernel
theorem dX3_mend_15 : decode cX3_mend 15 = .ok (.istore_n 2, 1) := by decide +kernel
theorem dX3_mend_16 : decode cX3_mend 16 = .ok (.iconst 2, 1) := by decide +kernel
theorem dX3_mend_17 : decode cX3_mend 17 = .ok (.iload_n 2, 1) := by decide +kernel
theorem dX3_mend_18 : decode cX3_mend 18 = .ok (.imul, 1) := by decide +kernel
theorem dX3_mend_19 : decode cX3_mend 19 = .ok (.iconst 1, 1) := by decide +kernel
theorem dX3_mend_20 : decode cX3_mend 20 = .ok (.iadd, 1) := by decide +kernel
theorem dX3_mend_21 : decode cX3_mend 21 = .ok (.aload_n 0, 1) := by decide +kernel
theorem dX3_mend_22 : decode cX3_mend 22 = .ok (.getfield 102, 3) := by decide +kernel
theorem dX3_mend_25 : decode cX3_mend 25 = .ok (.if_icmp .gt 55, 3) := by decide +kernel
theorem dX3_mend_28 : decode cX3_mend 28 = .ok (.aload_n 0, 1) := by decide +kernel
theorem dX3_mend_29 : decode cX3_mend 29 = .ok (.iload_n 1, 1) := by decide +kernel
theorem dX3_mend_30 : decode cX3_mend 30 = .ok (.iload_n 2, 1) := by decide +kernel
theorem dX3_mend_31 : decode cX3_mend 31 = .ok (.invokevirtual 114, 3) := by decide +kernel
theorem dX3_mend_34 : decode cX3_mend 34 = .ok (.ifCond .eq 40, 3) := by decide +kernel
theorem dX3_mend_37 : decode cX3_mend 37 = .ok (.iconst 0, 1) := by decide +kernel
theorem dX3_mend_38 : decode cX3_mend 38 = .ok (.istore_n 3, 1) := by decide +kernel
theorem dX3_mend_39 : decode cX3_mend 39 = .ok (.iload_n 3, 1) := by decide +kernel
theorem dX3_mend_40 : decode cX3_mend 40 = .ok (.iconst 2, 1) := by decide +kernel
theorem dX3_mend_41 : decode cX3_mend 41 = .ok (.iload_n 2, 1) := by decide +kernel
theorem dX3_mend_42 : decode cX3_mend 42 = .ok (.imul, 1) := by decide +kernel
theorem dX3_mend_43 : decode cX3_mend 43 = .ok (.if_icmp .gt 29, 3) := by decide +kernel
theorem dX3_mend_46 : decode cX3_mend 46 = .ok (.aload_n 0, 1) := by decide +kernel
theorem dX3_mend_47 : decode cX3_mend 47 = .ok (.getfield 27, 3) := by decide +kernel
theorem dX3_mend_50 : decode cX3_mend 50 = .ok (.aload_n 0, 1) := by decide +kernel
theorem dX3_mend_51 : decode cX3_mend 51 = .ok (.iload_n 1, 1) := by decide +kernel
theorem dX3_mend_52 : decode cX3_mend 52 = .ok (.iload_n 2, 1) := by decide +kernel
theorem dX3_mend_53 : decode cX3_mend 53 = .ok (.isub, 1) := by decide +kernel
theorem dX3_mend_54 : decode cX3_mend 54 = .ok (.iload_n 3, 1) := by decide +kernel
theorem dX3_mend_55 : decode cX3_mend 55 = .ok (.iadd, 1) := by decide +kernel
theorem dX3_mend_56 : decode cX3_mend 56 = .ok (.invokevirtual 108, 3) := by decide +kernel
theorem dX3_mend_59 : decode cX3_mend 59 = .ok (.aload_n 0, 1) := by decide +kernel
theorem dX3_mend_60 : decode cX3_mend 60 = .ok (.getfield 23, 3) := by decide +kernel
theorem dX3_mend_63 : decode cX3_mend 63 = .ok (.iload_n 3, 1) := by decide +kernel
theorem dX3_mend_64 : decode cX3_mend 64 = .ok (.iaload, 1) := by decide +kernel
theorem dX3_mend_65 : decode cX3_mend 65 = .ok (.iastore, 1) := by decide +kernel
theorem dX3_mend_66 : decode cX3_mend 66 = .ok (.iinc 3 1, 3) := by decide +kernel
theorem dX3_mend_69 : decode cX3_mend 69 = .ok (.goto (-30), 3) := by decide +kernel
theorem dX3_mend_72 : decode cX3_mend 72 = .ok (.iload_n 2, 1) := by decide +kernel
theorem dX3_mend_73 : decode cX3_mend 73 = .ok (.ireturn, 1) := by decide +kernel
theorem dX3_mend_74 : decode cX3_mend 74 = .ok (.iinc 2 1, 3) := by decide +kernel
theorem dX3_mend_77 : decode cX3_mend 77 = .ok (.goto (-61), 3) := by decide +kernel
theorem dX3_mend_80 : decode cX3_mend 80 = .ok (.bipush (-9), 2) := by decide +kernel
theorem dX3_mend_82 : decode cX3_mend 82 = .ok (.ireturn, 1) := by decide +kernel
set_option maxRecDepth 20000 in
theorem ggX3_fresh_X3_layRing : GoodIn wsX3_fresh wsX3_layRing := goodIn_r _ [8, 9, 3, 10, 11, 12, 7, 13, 14, 15, 16, 17, 18, 19, 20, 21, 22, 23, 24, 25, 26, 27, 28, 29, 30, 31, 32, 33] (by decide +kernel) (by decide +kernel)
set_option maxRecDepth 20000 in
theorem gX3_fresh_X3_layRing : GoodIn wsX3_fresh (wsV RX3 81 RX3 yX3_layRing wsX3_layRing) := goodIn_app (goodIn_of _ (by decide +kernel)) ggX3_fresh_X3_layRing
theorem dX3_fresh_0 : decode cX3_fresh 0 = .ok (.aload_n 0, 1) := by decide +kernel
theorem dX3_fresh_1 : decode cX3_fresh 1 = .ok (.aload_n 0, 1) := by decide +kernel
theorem dX3_fresh_2 : decode cX3_fresh 2 = .ok (.getfield 102, 3) := by decide +kernel
theorem dX3_fresh_5 : decode cX3_fresh 5 = .ok (.invokevirtual 81, 3) := by decide +kernel
theorem dX3_fresh_8 : decode cX3_fresh 8 = .ok (.ifCond .ne 6, 3) := by decide +kernel
theorem dX3_fresh_11 : decode cX3_fresh 11 = .ok (.bipush (-9), 2) := by decide +kernel
theorem dX3_fresh_13 : decode cX3_fresh 13 = .ok (.ireturn, 1) := by decide +kernel
theorem dX3_fresh_14 : decode cX3_fresh 14 = .ok (.iconst 0, 1) := by decide +kernel
theorem dX3_fresh_15 : decode cX3_fresh 15 = .ok (.istore_n 1, 1) := by decide +kernel
theorem dX3_fresh_16 : decode cX3_fresh 16 = .ok (.iload_n 1, 1) := by decide +kernel
theorem dX3_fresh_17 : decode cX3_fresh 17 = .ok (.aload_n 0, 1) := by decide +kernel
theorem dX3_fresh_18 : decode cX3_fresh 18 = .ok (.getfield 102, 3) := by decide +kernel
theorem dX3_fresh_21 : decode cX3_fresh 21 = .ok (.if_icmp .ge 21, 3) := by decide +kernel
theorem dX3_fresh_24 : decode cX3_fresh 24 = .ok (.aload_n 0, 1) := by decide +kernel
theorem dX3_fresh_25 : decode cX3_fresh 25 = .ok (.getfield 27, 3) := by decide +kernel
theorem dX3_fresh_28 : decode cX3_fresh 28 = .ok (.iload_n 1, 1) := by decide +kernel
theorem dX3_fresh_29 : decode cX3_fresh 29 = .ok (.aload_n 0, 1) := by decide +kernel
theorem dX3_fresh_30 : decode cX3_fresh 30 = .ok (.getfield 23, 3) := by decide +kernel
theorem dX3_fresh_33 : decode cX3_fresh 33 = .ok (.iload_n 1, 1) := by decide +kernel
theorem dX3_fresh_34 : decode cX3_fresh 34 = .ok (.iaload, 1) := by decide +kernel
theorem dX3_fresh_35 : decode cX3_fresh 35 = .ok (.iastore, 1) := by decide +kernel
theorem dX3_fresh_36 : decode cX3_fresh 36 = .ok (.iinc 1 1, 3) := by decide +kernel
theorem dX3_fresh_39 : decode cX3_fresh 39 = .ok (.goto (-23), 3) := by decide +kernel
theorem dX3_fresh_42 : decode cX3_fresh 42 = .ok (.iconst 1, 1) := by decide +kernel
theorem dX3_fresh_43 : decode cX3_fresh 43 = .ok (.ireturn, 1) := by decide +kernel
set_option maxRecDepth 20000 in
theorem ggX3_number_X3_isPost : GoodIn wsX3_number wsX3_isPost := goodIn_r _ [7, 8, 9, 10, 6, 11, 12, 13, 14, 15, 16, 17, 18, 19, 20] (by decide +kernel) (by decide +kernel)
set_option maxRecDepth 20000 in
theorem gX3_number_X3_isPost : GoodIn wsX3_number (wsV RX3 105 RX3 yX3_isPost wsX3_isPost) := goodIn_app (goodIn_of _ (by decide +kernel)) ggX3_number_X3_isPost
set_option maxRecDepth 20000 in
theorem ggX3_number_X3_in : GoodIn wsX3_number wsX3_in := goodIn_r _ [11] (by decide +kernel) (by decide +kernel)
set_option maxRecDepth 20000 in
theorem gX3_number_X3_in : GoodIn wsX3_number (va_wsS RX3 44 yX3_in wsX3_in) := goodIn_app (goodIn_of _ (by decide +kernel)) ggX3_number_X3_in
theorem dX3_number_0 : decode cX3_number 0 = .ok (.aload_n 0, 1) := by decide +kernel
theorem dX3_number_1 : decode cX3_number 1 = .ok (.iload_n 1, 1) := by decide +kernel
theorem dX3_number_2 : decode cX3_number 2 = .ok (.invokevirtual 105, 3) := by decide +kernel
theorem dX3_number_5 : decode cX3_number 5 = .ok (.ifCond .ne 5, 3) := by decide +kernel
theorem dX3_number_8 : decode cX3_number 8 = .ok (.iconst (-1), 1) := by decide +kernel
theorem dX3_number_9 : decode cX3_number 9 = .ok (.ireturn, 1) := by decide +kernel
theorem dX3_number_10 : decode cX3_number 10 = .ok (.iload_n 2, 1) := by decide +kernel
theorem dX3_number_11 : decode cX3_number 11 = .ok (.iconst 0, 1) := by decide +kernel
theorem dX3_number_12 : decode cX3_number 12 = .ok (.ldc 117, 2) := by decide +kernel
theorem dX3_number_14 : decode cX3_number 14 = .ok (.invokestatic 44, 3) := by decide +kernel
theorem dX3_number_17 : decode cX3_number 17 = .ok (.ifCond .ne 6, 3) := by decide +kernel
theorem dX3_number_20 : decode cX3_number 20 = .ok (.bipush (-2), 2) := by decide +kernel
theorem dX3_number_22 : decode cX3_number 22 = .ok (.ireturn, 1) := by decide +kernel
theorem dX3_number_23 : decode cX3_number 23 = .ok (.aload_n 0, 1) := by decide +kernel
theorem dX3_number_24 : decode cX3_number 24 = .ok (.getfield 30, 3) := by decide +kernel
theorem dX3_number_27 : decode cX3_number 27 = .ok (.iload_n 1, 1) := by decide +kernel
theorem dX3_number_28 : decode cX3_number 28 = .ok (.iaload, 1) := by decide +kernel
theorem dX3_number_29 : decode cX3_number 29 = .ok (.istore_n 3, 1) := by decide +kernel
theorem dX3_number_30 : decode cX3_number 30 = .ok (.aload_n 0, 1) := by decide +kernel
theorem dX3_number_31 : decode cX3_number 31 = .ok (.getfield 30, 3) := by decide +kernel
theorem dX3_number_34 : decode cX3_number 34 = .ok (.iload_n 1, 1) := by decide +kernel
theorem dX3_number_35 : decode cX3_number 35 = .ok (.iload_n 2, 1) := by decide +kernel
theorem dX3_number_36 : decode cX3_number 36 = .ok (.iastore, 1) := by decide +kernel
theorem dX3_number_37 : decode cX3_number 37 = .ok (.iload_n 3, 1) := by decide +kernel
theorem dX3_number_38 : decode cX3_number 38 = .ok (.ireturn, 1) := by decide +kernel
set_option maxRecDepth 20000 in
theorem ggX3_told_X3_isPost : GoodIn wsX3_told wsX3_isPost := goodIn_r _ [6, 7, 8, 9, 5, 10, 11, 12, 13, 14, 15, 16, 17, 18, 19] (by decide +kernel) (by decide +kernel)
set_option maxRecDepth 20000 in
theorem gX3_told_X3_isPost : GoodIn wsX3_told (wsV RX3 105 RX3 yX3_isPost wsX3_isPost) := goodIn_app (goodIn_of _ (by decide +kernel)) ggX3_told_X3_isPost
theorem dX3_told_0 : decode cX3_told 0 = .ok (.aload_n 0, 1) := by decide +kernel
theorem dX3_told_1 : decode cX3_told 1 = .ok (.iload_n 1, 1) := by decide +kernel
theorem dX3_told_2 : decode cX3_told 2 = .ok (.invokevirtual 105, 3) := by decide +kernel
theorem dX3_told_5 : decode cX3_told 5 = .ok (.ifCond .eq 12, 3) := by decide +kernel
theorem dX3_told_8 : decode cX3_told 8 = .ok (.aload_n 0, 1) := by decide +kernel
theorem dX3_told_9 : decode cX3_told 9 = .ok (.getfield 30, 3) := by decide +kernel
theorem dX3_told_12 : decode cX3_told 12 = .ok (.iload_n 1, 1) := by decide +kernel
theorem dX3_told_13 : decode cX3_told 13 = .ok (.iaload, 1) := by decide +kernel
theorem dX3_told_14 : decode cX3_told 14 = .ok (.goto 4, 3) := by decide +kernel
theorem dX3_told_17 : decode cX3_told 17 = .ok (.iconst (-1), 1) := by decide +kernel
theorem dX3_told_18 : decode cX3_told 18 = .ok (.ireturn, 1) := by decide +kernel
set_option maxRecDepth 20000 in
theorem ggX3_likes_X3_place : GoodIn wsX3_likes wsX3_place := goodIn_r _ [7, 1, 8, 9, 10, 11, 12, 13, 14, 15, 16] (by decide +kernel) (by decide +kernel)
set_option maxRecDepth 20000 in
theorem gX3_likes_X3_place : GoodIn wsX3_likes (wsV RX3 108 RX3 yX3_place wsX3_place) := goodIn_app (goodIn_of _ (by decide +kernel)) ggX3_likes_X3_place
theorem dX3_likes_0 : decode cX3_likes 0 = .ok (.iconst 0, 1) := by decide +kernel
theorem dX3_likes_1 : decode cX3_likes 1 = .ok (.istore_n 1, 1) := by decide +kernel
theorem dX3_likes_2 : decode cX3_likes 2 = .ok (.iconst 0, 1) := by decide +kernel
theorem dX3_likes_3 : decode cX3_likes 3 = .ok (.istore_n 2, 1) := by decide +kernel
theorem dX3_likes_4 : decode cX3_likes 4 = .ok (.iload_n 2, 1) := by decide +kernel
theorem dX3_likes_5 : decode cX3_likes 5 = .ok (.aload_n 0, 1) := by decide +kernel
theorem dX3_likes_6 : decode cX3_likes 6 = .ok (.getfield 102, 3) := by decide +kernel
theorem dX3_likes_9 : decode cX3_likes 9 = .ok (.if_icmp .ge 38, 3) := by decide +kernel
theorem dX3_likes_12 : decode cX3_likes 12 = .ok (.iload_n 1, 1) := by decide +kernel
theorem dX3_likes_13 : decode cX3_likes 13 = .ok (.aload_n 0, 1) := by decide +kernel
theorem dX3_likes_14 : decode cX3_likes 14 = .ok (.getfield 30, 3) := by decide +kernel
theorem dX3_likes_17 : decode cX3_likes 17 = .ok (.iload_n 2, 1) := by decide +kernel
theorem dX3_likes_18 : decode cX3_likes 18 = .ok (.iaload, 1) := by decide +kernel
theorem dX3_likes_19 : decode cX3_likes 19 = .ok (.aload_n 0, 1) := by decide +kernel
theorem dX3_likes_20 : decode cX3_likes 20 = .ok (.getfield 30, 3) := by decide +kernel
theorem dX3_likes_23 : decode cX3_likes 23 = .ok (.aload_n 0, 1) := by decide +kernel
theorem dX3_likes_24 : decode cX3_likes 24 = .ok (.iload_n 2, 1) := by decide +kernel
theorem dX3_likes_25 : decode cX3_likes 25 = .ok (.iconst 1, 1) := by decide +kernel
theorem dX3_likes_26 : decode cX3_likes 26 = .ok (.iadd, 1) := by decide +kernel
theorem dX3_likes_27 : decode cX3_likes 27 = .ok (.invokevirtual 108, 3) := by decide +kernel
theorem dX3_likes_30 : decode cX3_likes 30 = .ok (.iaload, 1) := by decide +kernel
theorem dX3_likes_31 : decode cX3_likes 31 = .ok (.if_icmp .ne 7, 3) := by decide +kernel
theorem dX3_likes_34 : decode cX3_likes 34 = .ok (.iconst 1, 1) := by decide +kernel
theorem dX3_likes_35 : decode cX3_likes 35 = .ok (.goto 4, 3) := by decide +kernel
theorem dX3_likes_38 : decode cX3_likes 38 = .ok (.iconst 0, 1) := by decide +kernel
theorem dX3_likes_39 : decode cX3_likes 39 = .ok (.iadd, 1) := by decide +kernel
theorem dX3_likes_40 : decode cX3_likes 40 = .ok (.istore_n 1, 1) := by decide +kernel
theorem dX3_likes_41 : decode cX3_likes 41 = .ok (.iinc 2 1, 3) := by decide +kernel
theorem dX3_likes_44 : decode cX3_likes 44 = .ok (.goto (-40), 3) := by decide +kernel
theorem dX3_likes_47 : decode cX3_likes 47 = .ok (.iload_n 1, 1) := by decide +kernel
theorem dX3_likes_48 : decode cX3_likes 48 = .ok (.ireturn, 1) := by decide +kernel
theorem dX3_greatest_0 : decode cX3_greatest 0 = .ok (.iconst 0, 1) := by decide +kernel
theorem dX3_greatest_1 : decode cX3_greatest 1 = .ok (.istore_n 1, 1) := by decide +kernel
theorem dX3_greatest_2 : decode cX3_greatest 2 = .ok (.iconst 0, 1) := by decide +kernel
theorem dX3_greatest_3 : decode cX3_greatest 3 = .ok (.istore_n 2, 1) := by decide +kernel
theorem dX3_greatest_4 : decode cX3_greatest 4 = .ok (.iload_n 2, 1) := by decide +kernel
theorem dX3_greatest_5 : decode cX3_greatest 5 = .ok (.aload_n 0, 1) := by decide +kernel
theorem dX3_greatest_6 : decode cX3_greatest 6 = .ok (.getfield 102, 3) := by decide +kernel
theorem dX3_greatest_9 : decode cX3_greatest 9 = .ok (.if_icmp .ge 30, 3) := by decide +kernel
theorem dX3_greatest_12 : decode cX3_greatest 12 = .ok (.aload_n 0, 1) := by decide +kernel
theorem dX3_greatest_13 : decode cX3_greatest 13 = .ok (.getfield 30, 3) := by decide +kernel
theorem dX3_greatest_16 : decode cX3_greatest 16 = .ok (.iload_n 2, 1) := by decide +kernel
theorem dX3_greatest_17 : decode cX3_greatest 17 = .ok (.iaload, 1) := by decide +kernel
theorem dX3_greatest_18 : decode cX3_greatest 18 = .ok (.iload_n 1, 1) := by decide +kernel
theorem dX3_greatest_19 : decode cX3_greatest 19 = .ok (.if_icmp .le 12, 3) := by decide +kernel
theorem dX3_greatest_22 : decode cX3_greatest 22 = .ok (.aload_n 0, 1) := by decide +kernel
theorem dX3_greatest_23 : decode cX3_greatest 23 = .ok (.getfield 30, 3) := by decide +kernel
theorem dX3_greatest_26 : decode cX3_greatest 26 = .ok (.iload_n 2, 1) := by decide +kernel
theorem dX3_greatest_27 : decode cX3_greatest 27 = .ok (.iaload, 1) := by decide +kernel
theorem dX3_greatest_28 : decode cX3_greatest 28 = .ok (.goto 4, 3) := by decide +kernel
theorem dX3_greatest_31 : decode cX3_greatest 31 = .ok (.iload_n 1, 1) := by decide +kernel
theorem dX3_greatest_32 : decode cX3_greatest 32 = .ok (.istore_n 1, 1) := by decide +kernel
theorem dX3_greatest_33 : decode cX3_greatest 33 = .ok (.iinc 2 1, 3) := by decide +kernel
theorem dX3_greatest_36 : decode cX3_greatest 36 = .ok (.goto (-32), 3) := by decide +kernel
theorem dX3_greatest_39 : decode cX3_greatest 39 = .ok (.iload_n 1, 1) := by decide +kernel
theorem dX3_greatest_40 : decode cX3_greatest 40 = .ok (.ireturn, 1) := by decide +kernel
theorem dX3_lowest_0 : decode cX3_lowest 0 = .ok (.iconst 0, 1) := by decide +kernel
theorem dX3_lowest_1 : decode cX3_lowest 1 = .ok (.istore_n 2, 1) := by decide +kernel
theorem dX3_lowest_2 : decode cX3_lowest 2 = .ok (.iload_n 0, 1) := by decide +kernel
theorem dX3_lowest_3 : decode cX3_lowest 3 = .ok (.iload_n 2, 1) := by decide +kernel
theorem dX3_lowest_4 : decode cX3_lowest 4 = .ok (.ishr, 1) := by decide +kernel
theorem dX3_lowest_5 : decode cX3_lowest 5 = .ok (.iconst 1, 1) := by decide +kernel
theorem dX3_lowest_6 : decode cX3_lowest 6 = .ok (.iand, 1) := by decide +kernel
theorem dX3_lowest_7 : decode cX3_lowest 7 = .ok (.iload_n 1, 1) := by decide +kernel
theorem dX3_lowest_8 : decode cX3_lowest 8 = .ok (.iload_n 2, 1) := by decide +kernel
theorem dX3_lowest_9 : decode cX3_lowest 9 = .ok (.ishr, 1) := by decide +kernel
theorem dX3_lowest_10 : decode cX3_lowest 10 = .ok (.iconst 1, 1) := by decide +kernel
theorem dX3_lowest_11 : decode cX3_lowest 11 = .ok (.iand, 1) := by decide +kernel
theorem dX3_lowest_12 : decode cX3_lowest 12 = .ok (.if_icmp .ne 9, 3) := by decide +kernel
theorem dX3_lowest_15 : decode cX3_lowest 15 = .ok (.iinc 2 1, 3) := by decide +kernel
theorem dX3_lowest_18 : decode cX3_lowest 18 = .ok (.goto (-16), 3) := by decide +kernel
theorem dX3_lowest_21 : decode cX3_lowest 21 = .ok (.iconst 2, 1) := by decide +kernel
theorem dX3_lowest_22 : decode cX3_lowest 22 = .ok (.iload_n 2, 1) := by decide +kernel
theorem dX3_lowest_23 : decode cX3_lowest 23 = .ok (.imul, 1) := by decide +kernel
theorem dX3_lowest_24 : decode cX3_lowest 24 = .ok (.iload_n 0, 1) := by decide +kernel
theorem dX3_lowest_25 : decode cX3_lowest 25 = .ok (.iload_n 2, 1) := by decide +kernel
theorem dX3_lowest_26 : decode cX3_lowest 26 = .ok (.ishr, 1) := by decide +kernel
theorem dX3_lowest_27 : decode cX3_lowest 27 = .ok (.iconst 1, 1) := by decide +kernel
theorem dX3_lowest_28 : decode cX3_lowest 28 = .ok (.iand, 1) := by decide +kernel
theorem dX3_lowest_29 : decode cX3_lowest 29 = .ok (.iadd, 1) := by decide +kernel
theorem dX3_lowest_30 : decode cX3_lowest 30 = .ok (.ireturn, 1) := by decide +kernel
set_option maxRecDepth 20000 in
theorem ggX3_goRound_X3_place : GoodIn wsX3_goRound wsX3_place := goodIn_r _ [8, 1, 12, 13, 14, 15, 16, 17, 18, 19, 20] (by decide +kernel) (by decide +kernel)
set_option maxRecDepth 20000 in
theorem gX3_goRound_X3_place : GoodIn wsX3_goRound (wsV RX3 108 RX3 yX3_place wsX3_place) := goodIn_app (goodIn_of _ (by decide +kernel)) ggX3_goRound_X3_place
set_option maxRecDepth 20000 in
theorem ggX3_goRound_X3_lowest : GoodIn wsX3_goRound wsX3_lowest := goodIn_r _ [11] (by decide +kernel) (by decide +kernel)
set_option maxRecDepth 20000 in
theorem gX3_goRound_X3_lowest : GoodIn wsX3_goRound (va_wsS RX3 118 yX3_lowest wsX3_lowest) := goodIn_app (goodIn_of _ (by decide +kernel)) ggX3_goRound_X3_lowest
theorem dX3_goRound_0 : decode cX3_goRound 0 = .ok (.iconst 0, 1) := by decide +kernel
theorem dX3_goRound_1 : decode cX3_goRound 1 = .ok (.istore_n 1, 1) := by decide +kernel
theorem dX3_goRound_2 : decode cX3_goRound 2 = .ok (.iload_n 1, 1) := by decide +kernel
theorem dX3_goRound_3 : decode cX3_goRound 3 = .ok (.aload_n 0, 1) := by decide +kernel
theorem dX3_goRound_4 : decode cX3_goRound 4 = .ok (.getfield 102, 3) := by decide +kernel
theorem dX3_goRound_7 : decode cX3_goRound 7 = .ok (.if_icmp .ge 36, 3) := by decide +kernel
theorem dX3_goRound_10 : decode cX3_goRound 10 = .ok (.aload_n 0, 1) := by decide +kernel
theorem dX3_goRound_11 : decode cX3_goRound 11 = .ok (.getfield 23, 3) := by decide +kernel
theorem dX3_goRound_14 : decode cX3_goRound 14 = .ok (.iload_n 1, 1) := by decide +kernel
theorem dX3_goRound_15 : decode cX3_goRound 15 = .ok (.aload_n 0, 1) := by decide +kernel
theorem dX3_goRound_16 : decode cX3_goRound 16 = .ok (.getfield 30, 3) := by decide +kernel
theorem dX3_goRound_19 : decode cX3_goRound 19 = .ok (.iload_n 1, 1) := by decide +kernel
theorem dX3_goRound_20 : decode cX3_goRound 20 = .ok (.iaload, 1) := by decide +kernel
theorem dX3_goRound_21 : decode cX3_goRound 21 = .ok (.aload_n 0, 1) := by decide +kernel
theorem dX3_goRound_22 : decode cX3_goRound 22 = .ok (.getfield 30, 3) := by decide +kernel
theorem dX3_goRound_25 : decode cX3_goRound 25 = .ok (.aload_n 0, 1) := by decide +kernel
theorem dX3_goRound_26 : decode cX3_goRound 26 = .ok (.iload_n 1, 1) := by decide +kernel
theorem dX3_goRound_27 : decode cX3_goRound 27 = .ok (.iconst 1, 1) := by decide +kernel
theorem dX3_goRound_28 : decode cX3_goRound 28 = .ok (.iadd, 1) := by decide +kernel
theorem dX3_goRound_29 : decode cX3_goRound 29 = .ok (.invokevirtual 108, 3) := by decide +kernel
theorem dX3_goRound_32 : decode cX3_goRound 32 = .ok (.iaload, 1) := by decide +kernel
theorem dX3_goRound_33 : decode cX3_goRound 33 = .ok (.invokestatic 118, 3) := by decide +kernel
theorem dX3_goRound_36 : decode cX3_goRound 36 = .ok (.iastore, 1) := by decide +kernel
theorem dX3_goRound_37 : decode cX3_goRound 37 = .ok (.iinc 1 1, 3) := by decide +kernel
theorem dX3_goRound_40 : decode cX3_goRound 40 = .ok (.goto (-38), 3) := by decide +kernel
theorem dX3_goRound_43 : decode cX3_goRound 43 = .ok (.iconst 0, 1) := by decide +kernel
theorem dX3_goRound_44 : decode cX3_goRound 44 = .ok (.istore_n 1, 1) := by decide +kernel
theorem dX3_goRound_45 : decode cX3_goRound 45 = .ok (.iload_n 1, 1) := by decide +kernel
theorem dX3_goRound_46 : decode cX3_goRound 46 = .ok (.aload_n 0, 1) := by decide +kernel
theorem dX3_goRound_47 : decode cX3_goRound 47 = .ok (.getfield 102, 3) := by decide +kernel
theorem dX3_goRound_50 : decode cX3_goRound 50 = .ok (.if_icmp .ge 21, 3) := by decide +kernel
theorem dX3_goRound_53 : decode cX3_goRound 53 = .ok (.aload_n 0, 1) := by decide +kernel
theorem dX3_goRound_54 : decode cX3_goRound 54 = .ok (.getfield 30, 3) := by decide +kernel
theorem dX3_goRound_57 : decode cX3_goRound 57 = .ok (.iload_n 1, 1) := by decide +kernel
theorem dX3_goRound_58 : decode cX3_goRound 58 = .ok (.aload_n 0, 1) := by decide +kernel
theorem dX3_goRound_59 : decode cX3_goRound 59 = .ok (.getfield 23, 3) := by decide +kernel
theorem dX3_goRound_62 : decode cX3_goRound 62 = .ok (.iload_n 1, 1) := by decide +kernel
theorem dX3_goRound_63 : decode cX3_goRound 63 = .ok (.iaload, 1) := by decide +kernel
theorem dX3_goRound_64 : decode cX3_goRound 64 = .ok (.iastore, 1) := by decide +kernel
theorem dX3_goRound_65 : decode cX3_goRound 65 = .ok (.iinc 1 1, 3) := by decide +kernel
theorem dX3_goRound_68 : decode cX3_goRound 68 = .ok (.goto (-23), 3) := by decide +kernel
theorem dX3_goRound_71 : decode cX3_goRound 71 = .ok (.return_, 1) := by decide +kernel
set_option maxRecDepth 20000 in
theorem ggX3_round_X3_likes : GoodIn wsX3_round wsX3_likes := goodIn_r _ [5, 6, 7, 8, 9, 10, 4, 11, 24, 25, 26, 27, 28, 29, 30, 31, 32] (by decide +kernel) (by decide +kernel)
set_option maxRecDepth 20000 in
theorem gX3_round_X3_likes : GoodIn wsX3_round (wsV RX3 121 RX3 yX3_likes wsX3_likes) := goodIn_app (goodIn_of _ (by decide +kernel)) ggX3_round_X3_likes
set_option maxRecDepth 20000 in
theorem ggX3_round_X3_goRound : GoodIn wsX3_round wsX3_goRound := goodIn_r _ [15, 6, 16, 7, 8, 9, 10, 4, 11, 17, 18, 19, 24, 25, 26, 27, 28, 29, 30, 31, 32] (by decide +kernel) (by decide +kernel)
set_option maxRecDepth 20000 in
theorem gX3_round_X3_goRound : GoodIn wsX3_round (wsV RX3 125 RX3 yX3_goRound wsX3_goRound) := goodIn_app (goodIn_of _ (by decide +kernel)) ggX3_round_X3_goRound
set_option maxRecDepth 20000 in
theorem ggX3_round_X3_greatest : GoodIn wsX3_round wsX3_greatest := goodIn_r _ [23, 6, 7, 24, 25, 26, 27, 28, 29, 30, 31, 32] (by decide +kernel) (by decide +kernel)
set_option maxRecDepth 20000 in
theorem gX3_round_X3_greatest : GoodIn wsX3_round (wsV RX3 128 RX3 yX3_greatest wsX3_greatest) := goodIn_app (goodIn_of _ (by decide +kernel)) ggX3_round_X3_greatest
theorem dX3_round_0 : decode cX3_round 0 = .ok (.aload_n 0, 1) := by decide +kernel
theorem dX3_round_1 : decode cX3_round 1 = .ok (.invokevirtual 121, 3) := by decide +kernel
theorem dX3_round_4 : decode cX3_round 4 = .ok (.ifCond .le 6, 3) := by decide +kernel
theorem dX3_round_7 : decode cX3_round 7 = .ok (.bipush (-3), 2) := by decide +kernel
theorem dX3_round_9 : decode cX3_round 9 = .ok (.ireturn, 1) := by decide +kernel
theorem dX3_round_10 : decode cX3_round 10 = .ok (.aload_n 0, 1) := by decide +kernel
theorem dX3_round_11 : decode cX3_round 11 = .ok (.invokevirtual 125, 3) := by decide +kernel
theorem dX3_round_14 : decode cX3_round 14 = .ok (.aload_n 0, 1) := by decide +kernel
theorem dX3_round_15 : decode cX3_round 15 = .ok (.invokevirtual 128, 3) := by decide +kernel
theorem dX3_round_18 : decode cX3_round 18 = .ok (.ireturn, 1) := by decide +kernel
set_option maxRecDepth 20000 in
theorem ggX3_colours_X3_likes : GoodIn wsX3_colours wsX3_likes := goodIn_r _ [7, 1, 2, 8, 9, 10, 6, 11, 24, 25, 26, 27, 28, 29, 30, 31, 32] (by decide +kernel) (by decide +kernel)
set_option maxRecDepth 20000 in
theorem gX3_colours_X3_likes : GoodIn wsX3_colours (wsV RX3 121 RX3 yX3_likes wsX3_likes) := goodIn_app (goodIn_of _ (by decide +kernel)) ggX3_colours_X3_likes
set_option maxRecDepth 20000 in
theorem ggX3_colours_X3_greatest : GoodIn wsX3_colours wsX3_greatest := goodIn_r _ [15, 1, 2, 24, 25, 26, 27, 28, 29, 30, 31, 32] (by decide +kernel) (by decide +kernel)
set_option maxRecDepth 20000 in
theorem gX3_colours_X3_greatest : GoodIn wsX3_colours (wsV RX3 128 RX3 yX3_greatest wsX3_greatest) := goodIn_app (goodIn_of _ (by decide +kernel)) ggX3_colours_X3_greatest
set_option maxRecDepth 20000 in
theorem ggX3_colours_X3_goRound : GoodIn wsX3_colours wsX3_goRound := goodIn_r _ [19, 1, 20, 2, 8, 9, 10, 6, 11, 21, 22, 23, 24, 25, 26, 27, 28, 29, 30, 31, 32] (by decide +kernel) (by decide +kernel)
set_option maxRecDepth 20000 in
theorem gX3_colours_X3_goRound : GoodIn wsX3_colours (wsV RX3 125 RX3 yX3_goRound wsX3_goRound) := goodIn_app (goodIn_of _ (by decide +kernel)) ggX3_colours_X3_goRound
set_option maxRecDepth 20000 in
theorem ggX3_colours_X3_place : GoodIn wsX3_colours wsX3_place := goodIn_r _ [11, 1, 24, 25, 26, 27, 28, 29, 30, 31, 32] (by decide +kernel) (by decide +kernel)
set_option maxRecDepth 20000 in
theorem gX3_colours_X3_place : GoodIn wsX3_colours (wsV RX3 108 RX3 yX3_place wsX3_place) := goodIn_app (goodIn_of _ (by decide +kernel)) ggX3_colours_X3_place
theorem dX3_colours_0 : decode cX3_colours 0 = .ok (.aload_n 0, 1) := by decide +kernel
theorem dX3_colours_1 : decode cX3_colours 1 = .ok (.invokevirtual 121, 3) := by decide +kernel
theorem dX3_colours_4 : decode cX3_colours 4 = .ok (.ifCond .le 6, 3) := by decide +kernel
theorem dX3_colours_7 : decode cX3_colours 7 = .ok (.bipush (-3), 2) := by decide +kernel
theorem dX3_colours_9 : decode cX3_colours 9 = .ok (.ireturn, 1) := by decide +kernel
theorem dX3_colours_10 : decode cX3_colours 10 = .ok (.iconst 0, 1) := by decide +kernel
theorem dX3_colours_11 : decode cX3_colours 11 = .ok (.istore_n 1, 1) := by decide +kernel
theorem dX3_colours_12 : decode cX3_colours 12 = .ok (.aload_n 0, 1) := by decide +kernel
theorem dX3_colours_13 : decode cX3_colours 13 = .ok (.invokevirtual 128, 3) := by decide +kernel
theorem dX3_colours_16 : decode cX3_colours 16 = .ok (.iconst 5, 1) := by decide +kernel
theorem dX3_colours_17 : decode cX3_colours 17 = .ok (.if_icmp .le 13, 3) := by decide +kernel
theorem dX3_colours_20 : decode cX3_colours 20 = .ok (.aload_n 0, 1) := by decide +kernel
theorem dX3_colours_21 : decode cX3_colours 21 = .ok (.invokevirtual 125, 3) := by decide +kernel
theorem dX3_colours_24 : decode cX3_colours 24 = .ok (.iinc 1 1, 3) := by decide +kernel
theorem dX3_colours_27 : decode cX3_colours 27 = .ok (.goto (-15), 3) := by decide +kernel
theorem dX3_colours_30 : decode cX3_colours 30 = .ok (.iconst 5, 1) := by decide +kernel
theorem dX3_colours_31 : decode cX3_colours 31 = .ok (.istore_n 2, 1) := by decide +kernel
theorem dX3_colours_32 : decode cX3_colours 32 = .ok (.iload_n 2, 1) := by decide +kernel
theorem dX3_colours_33 : decode cX3_colours 33 = .ok (.iconst 2, 1) := by decide +kernel
theorem dX3_colours_34 : decode cX3_colours 34 = .ok (.if_icmp .le 86, 3) := by decide +kernel
theorem dX3_colours_37 : decode cX3_colours 37 = .ok (.iconst 0, 1) := by decide +kernel
theorem dX3_colours_38 : decode cX3_colours 38 = .ok (.istore_n 3, 1) := by decide +kernel
theorem dX3_colours_39 : decode cX3_colours 39 = .ok (.iload_n 3, 1) := by decide +kernel
theorem dX3_colours_40 : decode cX3_colours 40 = .ok (.aload_n 0, 1) := by decide +kernel
theorem dX3_colours_41 : decode cX3_colours 41 = .ok (.getfield 102, 3) := by decide +kernel
theorem dX3_colours_44 : decode cX3_colours 44 = .ok (.if_icmp .ge 70, 3) := by decide +kernel
theorem dX3_colours_47 : decode cX3_colours 47 = .ok (.aload_n 0, 1) := by decide +kernel
theorem dX3_colours_48 : decode cX3_colours 48 = .ok (.getfield 30, 3) := by decide +kernel
theorem dX3_colours_51 : decode cX3_colours 51 = .ok (.iload_n 3, 1) := by decide +kernel
theorem dX3_colours_52 : decode cX3_colours 52 = .ok (.iaload, 1) := by decide +kernel
theorem dX3_colours_53 : decode cX3_colours 53 = .ok (.iload_n 2, 1) := by decide +kernel
theorem dX3_colours_54 : decode cX3_colours 54 = .ok (.if_icmp .ne 54, 3) := by decide +kernel
theorem dX3_colours_57 : decode cX3_colours 57 = .ok (.iconst 0, 1) := by decide +kernel
theorem dX3_colours_58 : decode cX3_colours 58 = .ok (.istore 4, 2) := by decide +kernel
theorem dX3_colours_60 : decode cX3_colours 60 = .ok (.aload_n 0, 1) := by decide +kernel
theorem dX3_colours_61 : decode cX3_colours 61 = .ok (.getfield 30, 3) := by decide +kernel
theorem dX3_colours_64 : decode cX3_colours 64 = .ok (.aload_n 0, 1) := by decide +kernel
theorem dX3_colours_65 : decode cX3_colours 65 = .ok (.iload_n 3, 1) := by decide +kernel
theorem dX3_colours_66 : decode cX3_colours 66 = .ok (.iconst 1, 1) := by decide +kernel
theorem dX3_colours_67 : decode cX3_colours 67 = .ok (.isub, 1) := by decide +kernel
theorem dX3_colours_68 : decode cX3_colours 68 = .ok (.invokevirtual 108, 3) := by decide +kernel
theorem dX3_colours_71 : decode cX3_colours 71 = .ok (.iaload, 1) := by decide +kernel
theorem dX3_colours_72 : decode cX3_colours 72 = .ok (.iload 4, 2) := by decide +kernel
theorem dX3_colours_74 : decode cX3_colours 74 = .ok (.if_icmp .eq 20, 3) := by decide +kernel
theorem dX3_colours_77 : decode cX3_colours 77 = .ok (.aload_n 0, 1) := by decide +kernel
theorem dX3_colours_78 : decode cX3_colours 78 = .ok (.getfield 30, 3) := by decide +kernel
theorem dX3_colours_81 : decode cX3_colours 81 = .ok (.aload_n 0, 1) := by decide +kernel
theorem dX3_colours_82 : decode cX3_colours 82 = .ok (.iload_n 3, 1) := by decide +kernel
theorem dX3_colours_83 : decode cX3_colours 83 = .ok (.iconst 1, 1) := by decide +kernel
theorem dX3_colours_84 : decode cX3_colours 84 = .ok (.iadd, 1) := by decide +kernel
theorem dX3_colours_85 : decode cX3_colours 85 = .ok (.invokevirtual 108, 3) := by decide +kernel
theorem dX3_colours_88 : decode cX3_colours 88 = .ok (.iaload, 1) := by decide +kernel
theorem dX3_colours_89 : decode cX3_colours 89 = .ok (.iload 4, 2) := by decide +kernel
theorem dX3_colours_91 : decode cX3_colours 91 = .ok (.if_icmp .ne 9, 3) := by decide +kernel
theorem dX3_colours_94 : decode cX3_colours 94 = .ok (.iinc 4 1, 3) := by decide +kernel
theorem dX3_colours_97 : decode cX3_colours 97 = .ok (.goto (-37), 3) := by decide +kernel
theorem dX3_colours_100 : decode cX3_colours 100 = .ok (.aload_n 0, 1) := by decide +kernel
theorem dX3_colours_101 : decode cX3_colours 101 = .ok (.getfield 30, 3) := by decide +kernel
theorem dX3_colours_104 : decode cX3_colours 104 = .ok (.iload_n 3, 1) := by decide +kernel
theorem dX3_colours_105 : decode cX3_colours 105 = .ok (.iload 4, 2) := by decide +kernel
theorem dX3_colours_107 : decode cX3_colours 107 = .ok (.iastore, 1) := by decide +kernel
theorem dX3_colours_108 : decode cX3_colours 108 = .ok (.iinc 3 1, 3) := by decide +kernel
theorem dX3_colours_111 : decode cX3_colours 111 = .ok (.goto (-72), 3) := by decide +kernel
theorem dX3_colours_114 : decode cX3_colours 114 = .ok (.iinc 2 (-1), 3) := by decide +kernel
theorem dX3_colours_117 : decode cX3_colours 117 = .ok (.goto (-85), 3) := by decide +kernel
theorem dX3_colours_120 : decode cX3_colours 120 = .ok (.iload_n 1, 1) := by decide +kernel
theorem dX3_colours_121 : decode cX3_colours 121 = .ok (.ireturn, 1) := by decide +kernel
set_option maxRecDepth 20000 in
theorem ggX3_take_X3_greatest : GoodIn wsX3_take wsX3_greatest := goodIn_r _ [9, 2, 4, 10, 11, 12, 13, 14, 15, 16, 17, 18] (by decide +kernel) (by decide +kernel)
set_option maxRecDepth 20000 in
theorem gX3_take_X3_greatest : GoodIn wsX3_take (wsV RX3 128 RX3 yX3_greatest wsX3_greatest) := goodIn_app (goodIn_of _ (by decide +kernel)) ggX3_take_X3_greatest
theorem dX3_take_0 : decode cX3_take 0 = .ok (.aload_n 0, 1) := by decide +kernel
theorem dX3_take_1 : decode cX3_take 1 = .ok (.invokevirtual 128, 3) := by decide +kernel
theorem dX3_take_4 : decode cX3_take 4 = .ok (.aload_n 0, 1) := by decide +kernel
theorem dX3_take_5 : decode cX3_take 5 = .ok (.getfield 40, 3) := by decide +kernel
theorem dX3_take_8 : decode cX3_take 8 = .ok (.if_icmp .lt 6, 3) := by decide +kernel
theorem dX3_take_11 : decode cX3_take 11 = .ok (.bipush (-3), 2) := by decide +kernel
theorem dX3_take_13 : decode cX3_take 13 = .ok (.ireturn, 1) := by decide +kernel
theorem dX3_take_14 : decode cX3_take 14 = .ok (.iconst 0, 1) := by decide +kernel
theorem dX3_take_15 : decode cX3_take 15 = .ok (.istore_n 1, 1) := by decide +kernel
theorem dX3_take_16 : decode cX3_take 16 = .ok (.iload_n 1, 1) := by decide +kernel
theorem dX3_take_17 : decode cX3_take 17 = .ok (.aload_n 0, 1) := by decide +kernel
theorem dX3_take_18 : decode cX3_take 18 = .ok (.getfield 102, 3) := by decide +kernel
theorem dX3_take_21 : decode cX3_take 21 = .ok (.if_icmp .ge 21, 3) := by decide +kernel
theorem dX3_take_24 : decode cX3_take 24 = .ok (.aload_n 0, 1) := by decide +kernel
theorem dX3_take_25 : decode cX3_take 25 = .ok (.getfield 27, 3) := by decide +kernel
theorem dX3_take_28 : decode cX3_take 28 = .ok (.iload_n 1, 1) := by decide +kernel
theorem dX3_take_29 : decode cX3_take 29 = .ok (.aload_n 0, 1) := by decide +kernel
theorem dX3_take_30 : decode cX3_take 30 = .ok (.getfield 30, 3) := by decide +kernel
theorem dX3_take_33 : decode cX3_take 33 = .ok (.iload_n 1, 1) := by decide +kernel
theorem dX3_take_34 : decode cX3_take 34 = .ok (.iaload, 1) := by decide +kernel
theorem dX3_take_35 : decode cX3_take 35 = .ok (.iastore, 1) := by decide +kernel
theorem dX3_take_36 : decode cX3_take 36 = .ok (.iinc 1 1, 3) := by decide +kernel
theorem dX3_take_39 : decode cX3_take 39 = .ok (.goto (-23), 3) := by decide +kernel
theorem dX3_take_42 : decode cX3_take 42 = .ok (.iconst 1, 1) := by decide +kernel
theorem dX3_take_43 : decode cX3_take 43 = .ok (.ireturn, 1) := by decide +kernel
theorem dX3_unlike_0 : decode cX3_unlike 0 = .ok (.iconst 0, 1) := by decide +kernel
theorem dX3_unlike_1 : decode cX3_unlike 1 = .ok (.istore_n 2, 1) := by decide +kernel
theorem dX3_unlike_2 : decode cX3_unlike 2 = .ok (.iconst 0, 1) := by decide +kernel
theorem dX3_unlike_3 : decode cX3_unlike 3 = .ok (.istore_n 3, 1) := by decide +kernel
theorem dX3_unlike_4 : decode cX3_unlike 4 = .ok (.iload_n 3, 1) := by decide +kernel
theorem dX3_unlike_5 : decode cX3_unlike 5 = .ok (.aload_n 0, 1) := by decide +kernel
theorem dX3_unlike_6 : decode cX3_unlike 6 = .ok (.getfield 102, 3) := by decide +kernel
theorem dX3_unlike_9 : decode cX3_unlike 9 = .ok (.if_icmp .ge 62, 3) := by decide +kernel
theorem dX3_unlike_12 : decode cX3_unlike 12 = .ok (.iconst 1, 1) := by decide +kernel
theorem dX3_unlike_13 : decode cX3_unlike 13 = .ok (.istore 4, 2) := by decide +kernel
theorem dX3_unlike_15 : decode cX3_unlike 15 = .ok (.iconst 0, 1) := by decide +kernel
theorem dX3_unlike_16 : decode cX3_unlike 16 = .ok (.istore 5, 2) := by decide +kernel
theorem dX3_unlike_18 : decode cX3_unlike 18 = .ok (.iload 5, 2) := by decide +kernel
theorem dX3_unlike_20 : decode cX3_unlike 20 = .ok (.iload_n 3, 1) := by decide +kernel
theorem dX3_unlike_21 : decode cX3_unlike 21 = .ok (.if_icmp .ge 31, 3) := by decide +kernel
theorem dX3_unlike_24 : decode cX3_unlike 24 = .ok (.iload 4, 2) := by decide +kernel
theorem dX3_unlike_26 : decode cX3_unlike 26 = .ok (.ifCond .eq 17, 3) := by decide +kernel
theorem dX3_unlike_29 : decode cX3_unlike 29 = .ok (.aload_n 1, 1) := by decide +kernel
theorem dX3_unlike_30 : decode cX3_unlike 30 = .ok (.iload 5, 2) := by decide +kernel
theorem dX3_unlike_32 : decode cX3_unlike 32 = .ok (.iaload, 1) := by decide +kernel
theorem dX3_unlike_33 : decode cX3_unlike 33 = .ok (.aload_n 1, 1) := by decide +kernel
theorem dX3_unlike_34 : decode cX3_unlike 34 = .ok (.iload_n 3, 1) := by decide +kernel
theorem dX3_unlike_35 : decode cX3_unlike 35 = .ok (.iaload, 1) := by decide +kernel
theorem dX3_unlike_36 : decode cX3_unlike 36 = .ok (.if_icmp .eq 7, 3) := by decide +kernel
theorem dX3_unlike_39 : decode cX3_unlike 39 = .ok (.iconst 1, 1) := by decide +kernel
theorem dX3_unlike_40 : decode cX3_unlike 40 = .ok (.goto 4, 3) := by decide +kernel
theorem dX3_unlike_43 : decode cX3_unlike 43 = .ok (.iconst 0, 1) := by decide +kernel
theorem dX3_unlike_44 : decode cX3_unlike 44 = .ok (.istore 4, 2) := by decide +kernel
theorem dX3_unlike_46 : decode cX3_unlike 46 = .ok (.iinc 5 1, 3) := by decide +kernel
theorem dX3_unlike_49 : decode cX3_unlike 49 = .ok (.goto (-31), 3) := by decide +kernel
theorem dX3_unlike_52 : decode cX3_unlike 52 = .ok (.iload_n 2, 1) := by decide +kernel
theorem dX3_unlike_53 : decode cX3_unlike 53 = .ok (.iload 4, 2) := by decide +kernel
theorem dX3_unlike_55 : decode cX3_unlike 55 = .ok (.ifCond .eq 7, 3) := by decide +kernel
theorem dX3_unlike_58 : decode cX3_unlike 58 = .ok (.iconst 1, 1) := by decide +kernel
theorem dX3_unlike_59 : decode cX3_unlike 59 = .ok (.goto 4, 3) := by decide +kernel
theorem dX3_unlike_62 : decode cX3_unlike 62 = .ok (.iconst 0, 1) := by decide +kernel
theorem dX3_unlike_63 : decode cX3_unlike 63 = .ok (.iadd, 1) := by decide +kernel
theorem dX3_unlike_64 : decode cX3_unlike 64 = .ok (.istore_n 2, 1) := by decide +kernel
theorem dX3_unlike_65 : decode cX3_unlike 65 = .ok (.iinc 3 1, 3) := by decide +kernel
theorem dX3_unlike_68 : decode cX3_unlike 68 = .ok (.goto (-64), 3) := by decide +kernel
theorem dX3_unlike_71 : decode cX3_unlike 71 = .ok (.iload_n 2, 1) := by decide +kernel
theorem dX3_unlike_72 : decode cX3_unlike 72 = .ok (.ireturn, 1) := by decide +kernel
set_option maxRecDepth 20000 in
theorem ggX3_count_X3_unlike : GoodIn wsX3_count wsX3_unlike := goodIn_r _ [10, 3, 19, 20, 21, 22, 23, 24, 25, 26, 27] (by decide +kernel) (by decide +kernel)
set_option maxRecDepth 20000 in
theorem gX3_count_X3_unlike : GoodIn wsX3_count (wsV RX3 131 RX3 yX3_unlike wsX3_unlike) := goodIn_app (goodIn_of _ (by decide +kernel)) ggX3_count_X3_unlike
set_option maxRecDepth 20000 in
theorem ggX3_count_X3_likes : GoodIn wsX3_count wsX3_likes := goodIn_r _ [14, 3, 4, 15, 16, 17, 9, 18, 19, 20, 21, 22, 23, 24, 25, 26, 27] (by decide +kernel) (by decide +kernel)
set_option maxRecDepth 20000 in
theorem gX3_count_X3_likes : GoodIn wsX3_count (wsV RX3 121 RX3 yX3_likes wsX3_likes) := goodIn_app (goodIn_of _ (by decide +kernel)) ggX3_count_X3_likes
theorem dX3_count_0 : decode cX3_count 0 = .ok (.iconst 0, 1) := by decide +kernel
theorem dX3_count_1 : decode cX3_count 1 = .ok (.istore_n 2, 1) := by decide +kernel
theorem dX3_count_2 : decode cX3_count 2 = .ok (.iconst 0, 1) := by decide +kernel
theorem dX3_count_3 : decode cX3_count 3 = .ok (.istore_n 3, 1) := by decide +kernel
theorem dX3_count_4 : decode cX3_count 4 = .ok (.iload_n 3, 1) := by decide +kernel
theorem dX3_count_5 : decode cX3_count 5 = .ok (.bipush 36, 2) := by decide +kernel
theorem dX3_count_7 : decode cX3_count 7 = .ok (.if_icmp .ge 26, 3) := by decide +kernel
theorem dX3_count_10 : decode cX3_count 10 = .ok (.iload_n 2, 1) := by decide +kernel
theorem dX3_count_11 : decode cX3_count 11 = .ok (.aload_n 0, 1) := by decide +kernel
theorem dX3_count_12 : decode cX3_count 12 = .ok (.getfield 7, 3) := by decide +kernel
theorem dX3_count_15 : decode cX3_count 15 = .ok (.iload_n 3, 1) := by decide +kernel
theorem dX3_count_16 : decode cX3_count 16 = .ok (.baload, 1) := by decide +kernel
theorem dX3_count_17 : decode cX3_count 17 = .ok (.ifCond .eq 7, 3) := by decide +kernel
theorem dX3_count_20 : decode cX3_count 20 = .ok (.iconst 1, 1) := by decide +kernel
theorem dX3_count_21 : decode cX3_count 21 = .ok (.goto 4, 3) := by decide +kernel
theorem dX3_count_24 : decode cX3_count 24 = .ok (.iconst 0, 1) := by decide +kernel
theorem dX3_count_25 : decode cX3_count 25 = .ok (.iadd, 1) := by decide +kernel
theorem dX3_count_26 : decode cX3_count 26 = .ok (.istore_n 2, 1) := by decide +kernel
theorem dX3_count_27 : decode cX3_count 27 = .ok (.iinc 3 1, 3) := by decide +kernel
theorem dX3_count_30 : decode cX3_count 30 = .ok (.goto (-26), 3) := by decide +kernel
theorem dX3_count_33 : decode cX3_count 33 = .ok (.iload_n 1, 1) := by decide +kernel
theorem dX3_count_34 : decode cX3_count 34 = .ok (.tableswitch 73 0 5 #[38, 43, 45, 50, 59, 64], 38) := by decide +kernel
theorem dX3_count_72 : decode cX3_count 72 = .ok (.aload_n 0, 1) := by decide +kernel
theorem dX3_count_73 : decode cX3_count 73 = .ok (.getfield 40, 3) := by decide +kernel
theorem dX3_count_76 : decode cX3_count 76 = .ok (.ireturn, 1) := by decide +kernel
theorem dX3_count_77 : decode cX3_count 77 = .ok (.iload_n 2, 1) := by decide +kernel
theorem dX3_count_78 : decode cX3_count 78 = .ok (.ireturn, 1) := by decide +kernel
theorem dX3_count_79 : decode cX3_count 79 = .ok (.aload_n 0, 1) := by decide +kernel
theorem dX3_count_80 : decode cX3_count 80 = .ok (.getfield 102, 3) := by decide +kernel
theorem dX3_count_83 : decode cX3_count 83 = .ok (.ireturn, 1) := by decide +kernel
theorem dX3_count_84 : decode cX3_count 84 = .ok (.aload_n 0, 1) := by decide +kernel
theorem dX3_count_85 : decode cX3_count 85 = .ok (.aload_n 0, 1) := by decide +kernel
theorem dX3_count_86 : decode cX3_count 86 = .ok (.getfield 30, 3) := by decide +kernel
theorem dX3_count_89 : decode cX3_count 89 = .ok (.invokevirtual 131, 3) := by decide +kernel
theorem dX3_count_92 : decode cX3_count 92 = .ok (.ireturn, 1) := by decide +kernel
theorem dX3_count_93 : decode cX3_count 93 = .ok (.aload_n 0, 1) := by decide +kernel
theorem dX3_count_94 : decode cX3_count 94 = .ok (.invokevirtual 121, 3) := by decide +kernel
theorem dX3_count_97 : decode cX3_count 97 = .ok (.ireturn, 1) := by decide +kernel
theorem dX3_count_98 : decode cX3_count 98 = .ok (.aload_n 0, 1) := by decide +kernel
theorem dX3_count_99 : decode cX3_count 99 = .ok (.aload_n 0, 1) := by decide +kernel
theorem dX3_count_100 : decode cX3_count 100 = .ok (.getfield 27, 3) := by decide +kernel
theorem dX3_count_103 : decode cX3_count 103 = .ok (.invokevirtual 131, 3) := by decide +kernel
theorem dX3_count_106 : decode cX3_count 106 = .ok (.ireturn, 1) := by decide +kernel
theorem dX3_count_107 : decode cX3_count 107 = .ok (.bipush (-2), 2) := by decide +kernel
theorem dX3_count_109 : decode cX3_count 109 = .ok (.ireturn, 1) := by decide +kernel
theorem dJ6_bitCount_0f7a4_0 : decode cJ6_bitCount_0f7a4 0 = .ok (.iload_n 0, 1) := by decide +kernel
theorem dJ6_bitCount_0f7a4_1 : decode cJ6_bitCount_0f7a4 1 = .ok (.iload_n 0, 1) := by decide +kernel
theorem dJ6_bitCount_0f7a4_2 : decode cJ6_bitCount_0f7a4 2 = .ok (.iconst 1, 1) := by decide +kernel
theorem dJ6_bitCount_0f7a4_3 : decode cJ6_bitCount_0f7a4 3 = .ok (.iushr, 1) := by decide +kernel
theorem dJ6_bitCount_0f7a4_4 : decode cJ6_bitCount_0f7a4 4 = .ok (.ldc_w 265, 3) := by decide +kernel
theorem dJ6_bitCount_0f7a4_7 : decode cJ6_bitCount_0f7a4 7 = .ok (.iand, 1) := by decide +kernel
theorem dJ6_bitCount_0f7a4_8 : decode cJ6_bitCount_0f7a4 8 = .ok (.isub, 1) := by decide +kernel
theorem dJ6_bitCount_0f7a4_9 : decode cJ6_bitCount_0f7a4 9 = .ok (.istore_n 0, 1) := by decide +kernel
theorem dJ6_bitCount_0f7a4_10 : decode cJ6_bitCount_0f7a4 10 = .ok (.iload_n 0, 1) := by decide +kernel
theorem dJ6_bitCount_0f7a4_11 : decode cJ6_bitCount_0f7a4 11 = .ok (.ldc_w 266, 3) := by decide +kernel
theorem dJ6_bitCount_0f7a4_14 : decode cJ6_bitCount_0f7a4 14 = .ok (.iand, 1) := by decide +kernel
theorem dJ6_bitCount_0f7a4_15 : decode cJ6_bitCount_0f7a4 15 = .ok (.iload_n 0, 1) := by decide +kernel
theorem dJ6_bitCount_0f7a4_16 : decode cJ6_bitCount_0f7a4 16 = .ok (.iconst 2, 1) := by decide +kernel
theorem dJ6_bitCount_0f7a4_17 : decode cJ6_bitCount_0f7a4 17 = .ok (.iushr, 1) := by decide +kernel
theorem dJ6_bitCount_0f7a4_18 : decode cJ6_bitCount_0f7a4 18 = .ok (.ldc_w 266, 3) := by decide +kernel
theorem dJ6_bitCount_0f7a4_21 : decode cJ6_bitCount_0f7a4 21 = .ok (.iand, 1) := by decide +kernel
theorem dJ6_bitCount_0f7a4_22 : decode cJ6_bitCount_0f7a4 22 = .ok (.iadd, 1) := by decide +kernel
theorem dJ6_bitCount_0f7a4_23 : decode cJ6_bitCount_0f7a4 23 = .ok (.istore_n 0, 1) := by decide +kernel
theorem dJ6_bitCount_0f7a4_24 : decode cJ6_bitCount_0f7a4 24 = .ok (.iload_n 0, 1) := by decide +kernel
theorem dJ6_bitCount_0f7a4_25 : decode cJ6_bitCount_0f7a4 25 = .ok (.iload_n 0, 1) := by decide +kernel
theorem dJ6_bitCount_0f7a4_26 : decode cJ6_bitCount_0f7a4 26 = .ok (.iconst 4, 1) := by decide +kernel
theorem dJ6_bitCount_0f7a4_27 : decode cJ6_bitCount_0f7a4 27 = .ok (.iushr, 1) := by decide +kernel
theorem dJ6_bitCount_0f7a4_28 : decode cJ6_bitCount_0f7a4 28 = .ok (.iadd, 1) := by decide +kernel
theorem dJ6_bitCount_0f7a4_29 : decode cJ6_bitCount_0f7a4 29 = .ok (.ldc_w 267, 3) := by decide +kernel
theorem dJ6_bitCount_0f7a4_32 : decode cJ6_bitCount_0f7a4 32 = .ok (.iand, 1) := by decide +kernel
theorem dJ6_bitCount_0f7a4_33 : decode cJ6_bitCount_0f7a4 33 = .ok (.istore_n 0, 1) := by decide +kernel
theorem dJ6_bitCount_0f7a4_34 : decode cJ6_bitCount_0f7a4 34 = .ok (.iload_n 0, 1) := by decide +kernel
theorem dJ6_bitCount_0f7a4_35 : decode cJ6_bitCount_0f7a4 35 = .ok (.iload_n 0, 1) := by decide +kernel
theorem dJ6_bitCount_0f7a4_36 : decode cJ6_bitCount_0f7a4 36 = .ok (.bipush 8, 2) := by decide +kernel
theorem dJ6_bitCount_0f7a4_38 : decode cJ6_bitCount_0f7a4 38 = .ok (.iushr, 1) := by decide +kernel
theorem dJ6_bitCount_0f7a4_39 : decode cJ6_bitCount_0f7a4 39 = .ok (.iadd, 1) := by decide +kernel
theorem dJ6_bitCount_0f7a4_40 : decode cJ6_bitCount_0f7a4 40 = .ok (.istore_n 0, 1) := by decide +kernel
theorem dJ6_bitCount_0f7a4_41 : decode cJ6_bitCount_0f7a4 41 = .ok (.iload_n 0, 1) := by decide +kernel
theorem dJ6_bitCount_0f7a4_42 : decode cJ6_bitCount_0f7a4 42 = .ok (.iload_n 0, 1) := by decide +kernel
theorem dJ6_bitCount_0f7a4_43 : decode cJ6_bitCount_0f7a4 43 = .ok (.bipush 16, 2) := by decide +kernel
theorem dJ6_bitCount_0f7a4_45 : decode cJ6_bitCount_0f7a4 45 = .ok (.iushr, 1) := by decide +kernel
theorem dJ6_bitCount_0f7a4_46 : decode cJ6_bitCount_0f7a4 46 = .ok (.iadd, 1) := by decide +kernel
theorem dJ6_bitCount_0f7a4_47 : decode cJ6_bitCount_0f7a4 47 = .ok (.istore_n 0, 1) := by decide +kernel
theorem dJ6_bitCount_0f7a4_48 : decode cJ6_bitCount_0f7a4 48 = .ok (.iload_n 0, 1) := by decide +kernel
theorem dJ6_bitCount_0f7a4_49 : decode cJ6_bitCount_0f7a4 49 = .ok (.bipush 63, 2) := by decide +kernel
theorem dJ6_bitCount_0f7a4_51 : decode cJ6_bitCount_0f7a4 51 = .ok (.iand, 1) := by decide +kernel
theorem dJ6_bitCount_0f7a4_52 : decode cJ6_bitCount_0f7a4 52 = .ok (.ireturn, 1) := by decide +kernel
theorem dJ9_max_7cf53_0 : decode cJ9_max_7cf53 0 = .ok (.iload_n 0, 1) := by decide +kernel
theorem dJ9_max_7cf53_1 : decode cJ9_max_7cf53 1 = .ok (.iload_n 1, 1) := by decide +kernel
theorem dJ9_max_7cf53_2 : decode cJ9_max_7cf53 2 = .ok (.if_icmp .lt 7, 3) := by decide +kernel
theorem dJ9_max_7cf53_5 : decode cJ9_max_7cf53 5 = .ok (.iload_n 0, 1) := by decide +kernel
theorem dJ9_max_7cf53_6 : decode cJ9_max_7cf53 6 = .ok (.goto 4, 3) := by decide +kernel
theorem dJ9_max_7cf53_9 : decode cJ9_max_7cf53 9 = .ok (.iload_n 1, 1) := by decide +kernel
theorem dJ9_max_7cf53_10 : decode cJ9_max_7cf53 10 = .ok (.ireturn, 1) := by decide +kernel
theorem dJ9_min_7cf53_0 : decode cJ9_min_7cf53 0 = .ok (.iload_n 0, 1) := by decide +kernel
theorem dJ9_min_7cf53_1 : decode cJ9_min_7cf53 1 = .ok (.iload_n 1, 1) := by decide +kernel
theorem dJ9_min_7cf53_2 : decode cJ9_min_7cf53 2 = .ok (.if_icmp .gt 7, 3) := by decide +kernel
theorem dJ9_min_7cf53_5 : decode cJ9_min_7cf53 5 = .ok (.iload_n 0, 1) := by decide +kernel
theorem dJ9_min_7cf53_6 : decode cJ9_min_7cf53 6 = .ok (.goto 4, 3) := by decide +kernel
theorem dJ9_min_7cf53_9 : decode cJ9_min_7cf53 9 = .ok (.iload_n 1, 1) := by decide +kernel
theorem dJ9_min_7cf53_10 : decode cJ9_min_7cf53 10 = .ok (.ireturn, 1) := by decide +kernel
theorem dJ9_min_f86c9_0 : decode cJ9_min_f86c9 0 = .ok (.lload_n 0, 1) := by decide +kernel
theorem dJ9_min_f86c9_1 : decode cJ9_min_f86c9 1 = .ok (.lload_n 2, 1) := by decide +kernel
theorem dJ9_min_f86c9_2 : decode cJ9_min_f86c9 2 = .ok (.lcmp, 1) := by decide +kernel
theorem dJ9_min_f86c9_3 : decode cJ9_min_f86c9 3 = .ok (.ifCond .gt 7, 3) := by decide +kernel
theorem dJ9_min_f86c9_6 : decode cJ9_min_f86c9 6 = .ok (.lload_n 0, 1) := by decide +kernel
theorem dJ9_min_f86c9_7 : decode cJ9_min_f86c9 7 = .ok (.goto 4, 3) := by decide +kernel
theorem dJ9_min_f86c9_10 : decode cJ9_min_f86c9 10 = .ok (.lload_n 2, 1) := by decide +kernel
theorem dJ9_min_f86c9_11 : decode cJ9_min_f86c9 11 = .ok (.lreturn, 1) := by decide +kernel
theorem dJ7_fill_d0a16_0 : decode cJ7_fill_d0a16 0 = .ok (.iconst 0, 1) := by decide +kernel
theorem dJ7_fill_d0a16_1 : decode cJ7_fill_d0a16 1 = .ok (.istore_n 3, 1) := by decide +kernel
theorem dJ7_fill_d0a16_2 : decode cJ7_fill_d0a16 2 = .ok (.aload_n 0, 1) := by decide +kernel
theorem dJ7_fill_d0a16_3 : decode cJ7_fill_d0a16 3 = .ok (.arraylength, 1) := by decide +kernel
theorem dJ7_fill_d0a16_4 : decode cJ7_fill_d0a16 4 = .ok (.istore 4, 2) := by decide +kernel
theorem dJ7_fill_d0a16_6 : decode cJ7_fill_d0a16 6 = .ok (.iload_n 3, 1) := by decide +kernel
theorem dJ7_fill_d0a16_7 : decode cJ7_fill_d0a16 7 = .ok (.iload 4, 2) := by decide +kernel
theorem dJ7_fill_d0a16_9 : decode cJ7_fill_d0a16 9 = .ok (.if_icmp .ge 13, 3) := by decide +kernel
theorem dJ7_fill_d0a16_12 : decode cJ7_fill_d0a16 12 = .ok (.aload_n 0, 1) := by decide +kernel
theorem dJ7_fill_d0a16_13 : decode cJ7_fill_d0a16 13 = .ok (.iload_n 3, 1) := by decide +kernel
theorem dJ7_fill_d0a16_14 : decode cJ7_fill_d0a16 14 = .ok (.lload_n 1, 1) := by decide +kernel
theorem dJ7_fill_d0a16_15 : decode cJ7_fill_d0a16 15 = .ok (.lastore, 1) := by decide +kernel
theorem dJ7_fill_d0a16_16 : decode cJ7_fill_d0a16 16 = .ok (.iinc 3 1, 3) := by decide +kernel
theorem dJ7_fill_d0a16_19 : decode cJ7_fill_d0a16 19 = .ok (.goto (-13), 3) := by decide +kernel
theorem dJ7_fill_d0a16_22 : decode cJ7_fill_d0a16 22 = .ok (.return_, 1) := by decide +kernel
theorem dJ7_fill_53178_0 : decode cJ7_fill_53178 0 = .ok (.iconst 0, 1) := by decide +kernel
theorem dJ7_fill_53178_1 : decode cJ7_fill_53178 1 = .ok (.istore_n 2, 1) := by decide +kernel
theorem dJ7_fill_53178_2 : decode cJ7_fill_53178 2 = .ok (.aload_n 0, 1) := by decide +kernel
theorem dJ7_fill_53178_3 : decode cJ7_fill_53178 3 = .ok (.arraylength, 1) := by decide +kernel
theorem dJ7_fill_53178_4 : decode cJ7_fill_53178 4 = .ok (.istore_n 3, 1) := by decide +kernel
theorem dJ7_fill_53178_5 : decode cJ7_fill_53178 5 = .ok (.iload_n 2, 1) := by decide +kernel
theorem dJ7_fill_53178_6 : decode cJ7_fill_53178 6 = .ok (.iload_n 3, 1) := by decide +kernel
theorem dJ7_fill_53178_7 : decode cJ7_fill_53178 7 = .ok (.if_icmp .ge 13, 3) := by decide +kernel
theorem dJ7_fill_53178_10 : decode cJ7_fill_53178 10 = .ok (.aload_n 0, 1) := by decide +kernel
theorem dJ7_fill_53178_11 : decode cJ7_fill_53178 11 = .ok (.iload_n 2, 1) := by decide +kernel
theorem dJ7_fill_53178_12 : decode cJ7_fill_53178 12 = .ok (.iload_n 1, 1) := by decide +kernel
theorem dJ7_fill_53178_13 : decode cJ7_fill_53178 13 = .ok (.iastore, 1) := by decide +kernel
theorem dJ7_fill_53178_14 : decode cJ7_fill_53178 14 = .ok (.iinc 2 1, 3) := by decide +kernel
theorem dJ7_fill_53178_17 : decode cJ7_fill_53178 17 = .ok (.goto (-12), 3) := by decide +kernel
theorem dJ7_fill_53178_20 : decode cJ7_fill_53178 20 = .ok (.return_, 1) := by decide +kernel
