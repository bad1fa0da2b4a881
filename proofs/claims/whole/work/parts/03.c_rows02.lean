set_option maxRecDepth 20000 in
theorem gX0_unlike_X0_standsBefore : GoodIn wsX0_unlike (va_wsS RX0 97 yX0_standsBefore wsX0_standsBefore) := goodIn_app (goodIn_of _ (by decide +kernel)) ggX0_unlike_X0_standsBefore
theorem dX0_unlike_0 : decode cX0_unlike 0 = .ok (.iconst 0, 1) := by decide +kernel
theorem dX0_unlike_1 : decode cX0_unlike 1 = .ok (.istore_n 2, 1) := by decide +kernel
theorem dX0_unlike_2 : decode cX0_unlike 2 = .ok (.iconst 0, 1) := by decide +kernel
theorem dX0_unlike_3 : decode cX0_unlike 3 = .ok (.istore_n 3, 1) := by decide +kernel
theorem dX0_unlike_4 : decode cX0_unlike 4 = .ok (.iload_n 3, 1) := by decide +kernel
theorem dX0_unlike_5 : decode cX0_unlike 5 = .ok (.aload_n 0, 1) := by decide +kernel
theorem dX0_unlike_6 : decode cX0_unlike 6 = .ok (.getfield 28, 3) := by decide +kernel
theorem dX0_unlike_9 : decode cX0_unlike 9 = .ok (.if_icmp .ge 26, 3) := by decide +kernel
theorem dX0_unlike_12 : decode cX0_unlike 12 = .ok (.iload_n 3, 1) := by decide +kernel
theorem dX0_unlike_13 : decode cX0_unlike 13 = .ok (.aload_n 1, 1) := by decide +kernel
theorem dX0_unlike_14 : decode cX0_unlike 14 = .ok (.arraylength, 1) := by decide +kernel
theorem dX0_unlike_15 : decode cX0_unlike 15 = .ok (.if_icmp .ge 20, 3) := by decide +kernel
theorem dX0_unlike_18 : decode cX0_unlike 18 = .ok (.aload_n 1, 1) := by decide +kernel
theorem dX0_unlike_19 : decode cX0_unlike 19 = .ok (.iload_n 3, 1) := by decide +kernel
theorem dX0_unlike_20 : decode cX0_unlike 20 = .ok (.invokestatic 97, 3) := by decide +kernel
theorem dX0_unlike_23 : decode cX0_unlike 23 = .ok (.ifCond .ne 6, 3) := by decide +kernel
theorem dX0_unlike_26 : decode cX0_unlike 26 = .ok (.iinc 2 1, 3) := by decide +kernel
theorem dX0_unlike_29 : decode cX0_unlike 29 = .ok (.iinc 3 1, 3) := by decide +kernel
theorem dX0_unlike_32 : decode cX0_unlike 32 = .ok (.goto (-28), 3) := by decide +kernel
theorem dX0_unlike_35 : decode cX0_unlike 35 = .ok (.iload_n 2, 1) := by decide +kernel
theorem dX0_unlike_36 : decode cX0_unlike 36 = .ok (.ireturn, 1) := by decide +kernel
theorem dX0_standsBefore_0 : decode cX0_standsBefore 0 = .ok (.iconst 0, 1) := by decide +kernel
theorem dX0_standsBefore_1 : decode cX0_standsBefore 1 = .ok (.istore_n 2, 1) := by decide +kernel
theorem dX0_standsBefore_2 : decode cX0_standsBefore 2 = .ok (.iload_n 2, 1) := by decide +kernel
theorem dX0_standsBefore_3 : decode cX0_standsBefore 3 = .ok (.iload_n 1, 1) := by decide +kernel
theorem dX0_standsBefore_4 : decode cX0_standsBefore 4 = .ok (.if_icmp .ge 20, 3) := by decide +kernel
theorem dX0_standsBefore_7 : decode cX0_standsBefore 7 = .ok (.aload_n 0, 1) := by decide +kernel
theorem dX0_standsBefore_8 : decode cX0_standsBefore 8 = .ok (.iload_n 2, 1) := by decide +kernel
theorem dX0_standsBefore_9 : decode cX0_standsBefore 9 = .ok (.iaload, 1) := by decide +kernel
theorem dX0_standsBefore_10 : decode cX0_standsBefore 10 = .ok (.aload_n 0, 1) := by decide +kernel
theorem dX0_standsBefore_11 : decode cX0_standsBefore 11 = .ok (.iload_n 1, 1) := by decide +kernel
theorem dX0_standsBefore_12 : decode cX0_standsBefore 12 = .ok (.iaload, 1) := by decide +kernel
theorem dX0_standsBefore_13 : decode cX0_standsBefore 13 = .ok (.if_icmp .ne 5, 3) := by decide +kernel
theorem dX0_standsBefore_16 : decode cX0_standsBefore 16 = .ok (.iconst 1, 1) := by decide +kernel
theorem dX0_standsBefore_17 : decode cX0_standsBefore 17 = .ok (.ireturn, 1) := by decide +kernel
theorem dX0_standsBefore_18 : decode cX0_standsBefore 18 = .ok (.iinc 2 1, 3) := by decide +kernel
theorem dX0_standsBefore_21 : decode cX0_standsBefore 21 = .ok (.goto (-19), 3) := by decide +kernel
theorem dX0_standsBefore_24 : decode cX0_standsBefore 24 = .ok (.iconst 0, 1) := by decide +kernel
theorem dX0_standsBefore_25 : decode cX0_standsBefore 25 = .ok (.ireturn, 1) := by decide +kernel
set_option maxRecDepth 20000 in
theorem ggX1_init_X1_restart : GoodIn wsX1_init wsX1_restart := goodIn_r _ [15, 16, 17, 18, 19, 20, 5, 21, 22, 23, 24, 25, 26] (by decide +kernel) (by decide +kernel)
set_option maxRecDepth 20000 in
theorem gX1_init_X1_restart : GoodIn wsX1_init (wsV RX1 28 RX1 yX1_restart wsX1_restart) := goodIn_app (goodIn_of _ (by decide +kernel)) ggX1_init_X1_restart
theorem dX1_init_0 : decode cX1_init 0 = .ok (.aload_n 0, 1) := by decide +kernel
theorem dX1_init_1 : decode cX1_init 1 = .ok (.invokespecial 3, 3) := by decide +kernel
theorem dX1_init_4 : decode cX1_init 4 = .ok (.aload_n 0, 1) := by decide +kernel
theorem dX1_init_5 : decode cX1_init 5 = .ok (.bipush 6, 2) := by decide +kernel
theorem dX1_init_7 : decode cX1_init 7 = .ok (.newarray .int, 2) := by decide +kernel
theorem dX1_init_9 : decode cX1_init 9 = .ok (.putfield 9, 3) := by decide +kernel
theorem dX1_init_12 : decode cX1_init 12 = .ok (.aload_n 0, 1) := by decide +kernel
theorem dX1_init_13 : decode cX1_init 13 = .ok (.bipush 61, 2) := by decide +kernel
theorem dX1_init_15 : decode cX1_init 15 = .ok (.newarray .int, 2) := by decide +kernel
theorem dX1_init_17 : decode cX1_init 17 = .ok (.putfield 15, 3) := by decide +kernel
theorem dX1_init_20 : decode cX1_init 20 = .ok (.aload_n 0, 1) := by decide +kernel
theorem dX1_init_21 : decode cX1_init 21 = .ok (.bipush 61, 2) := by decide +kernel
theorem dX1_init_23 : decode cX1_init 23 = .ok (.newarray .int, 2) := by decide +kernel
theorem dX1_init_25 : decode cX1_init 25 = .ok (.putfield 18, 3) := by decide +kernel
theorem dX1_init_28 : decode cX1_init 28 = .ok (.aload_n 0, 1) := by decide +kernel
theorem dX1_init_29 : decode cX1_init 29 = .ok (.bipush 6, 2) := by decide +kernel
theorem dX1_init_31 : decode cX1_init 31 = .ok (.newarray .long, 2) := by decide +kernel
theorem dX1_init_33 : decode cX1_init 33 = .ok (.putfield 21, 3) := by decide +kernel
theorem dX1_init_36 : decode cX1_init 36 = .ok (.aload_n 0, 1) := by decide +kernel
theorem dX1_init_37 : decode cX1_init 37 = .ok (.bipush 6, 2) := by decide +kernel
theorem dX1_init_39 : decode cX1_init 39 = .ok (.newarray .long, 2) := by decide +kernel
theorem dX1_init_41 : decode cX1_init 41 = .ok (.putfield 25, 3) := by decide +kernel
theorem dX1_init_44 : decode cX1_init 44 = .ok (.aload_n 0, 1) := by decide +kernel
theorem dX1_init_45 : decode cX1_init 45 = .ok (.iload_n 1, 1) := by decide +kernel
theorem dX1_init_46 : decode cX1_init 46 = .ok (.invokevirtual 28, 3) := by decide +kernel
theorem dX1_init_49 : decode cX1_init 49 = .ok (.return_, 1) := by decide +kernel
theorem dX1_restart_0 : decode cX1_restart 0 = .ok (.aload_n 0, 1) := by decide +kernel
theorem dX1_restart_1 : decode cX1_restart 1 = .ok (.iload_n 1, 1) := by decide +kernel
theorem dX1_restart_2 : decode cX1_restart 2 = .ok (.bipush 6, 2) := by decide +kernel
theorem dX1_restart_4 : decode cX1_restart 4 = .ok (.invokestatic 32, 3) := by decide +kernel
theorem dX1_restart_7 : decode cX1_restart 7 = .ok (.putfield 38, 3) := by decide +kernel
theorem dX1_restart_10 : decode cX1_restart 10 = .ok (.iconst 1, 1) := by decide +kernel
theorem dX1_restart_11 : decode cX1_restart 11 = .ok (.aload_n 0, 1) := by decide +kernel
theorem dX1_restart_12 : decode cX1_restart 12 = .ok (.getfield 38, 3) := by decide +kernel
theorem dX1_restart_15 : decode cX1_restart 15 = .ok (.ishl, 1) := by decide +kernel
theorem dX1_restart_16 : decode cX1_restart 16 = .ok (.iconst 1, 1) := by decide +kernel
theorem dX1_restart_17 : decode cX1_restart 17 = .ok (.isub, 1) := by decide +kernel
theorem dX1_restart_18 : decode cX1_restart 18 = .ok (.istore_n 2, 1) := by decide +kernel
theorem dX1_restart_19 : decode cX1_restart 19 = .ok (.iconst 0, 1) := by decide +kernel
theorem dX1_restart_20 : decode cX1_restart 20 = .ok (.istore_n 3, 1) := by decide +kernel
theorem dX1_restart_21 : decode cX1_restart 21 = .ok (.iload_n 3, 1) := by decide +kernel
theorem dX1_restart_22 : decode cX1_restart 22 = .ok (.aload_n 0, 1) := by decide +kernel
theorem dX1_restart_23 : decode cX1_restart 23 = .ok (.getfield 38, 3) := by decide +kernel
theorem dX1_restart_26 : decode cX1_restart 26 = .ok (.if_icmp .ge 22, 3) := by decide +kernel
theorem dX1_restart_29 : decode cX1_restart 29 = .ok (.aload_n 0, 1) := by decide +kernel
theorem dX1_restart_30 : decode cX1_restart 30 = .ok (.getfield 9, 3) := by decide +kernel
theorem dX1_restart_33 : decode cX1_restart 33 = .ok (.iload_n 3, 1) := by decide +kernel
theorem dX1_restart_34 : decode cX1_restart 34 = .ok (.iload_n 2, 1) := by decide +kernel
theorem dX1_restart_35 : decode cX1_restart 35 = .ok (.iconst 1, 1) := by decide +kernel
theorem dX1_restart_36 : decode cX1_restart 36 = .ok (.iload_n 3, 1) := by decide +kernel
theorem dX1_restart_37 : decode cX1_restart 37 = .ok (.ishl, 1) := by decide +kernel
theorem dX1_restart_38 : decode cX1_restart 38 = .ok (.iconst (-1), 1) := by decide +kernel
theorem dX1_restart_39 : decode cX1_restart 39 = .ok (.ixor, 1) := by decide +kernel
theorem dX1_restart_40 : decode cX1_restart 40 = .ok (.iand, 1) := by decide +kernel
theorem dX1_restart_41 : decode cX1_restart 41 = .ok (.iastore, 1) := by decide +kernel
theorem dX1_restart_42 : decode cX1_restart 42 = .ok (.iinc 3 1, 3) := by decide +kernel
theorem dX1_restart_45 : decode cX1_restart 45 = .ok (.goto (-24), 3) := by decide +kernel
theorem dX1_restart_48 : decode cX1_restart 48 = .ok (.return_, 1) := by decide +kernel
theorem dX1_has_0 : decode cX1_has 0 = .ok (.iload_n 1, 1) := by decide +kernel
theorem dX1_has_1 : decode cX1_has 1 = .ok (.ifCond .lt 15, 3) := by decide +kernel
theorem dX1_has_4 : decode cX1_has 4 = .ok (.iload_n 1, 1) := by decide +kernel
theorem dX1_has_5 : decode cX1_has 5 = .ok (.aload_n 0, 1) := by decide +kernel
theorem dX1_has_6 : decode cX1_has 6 = .ok (.getfield 38, 3) := by decide +kernel
theorem dX1_has_9 : decode cX1_has 9 = .ok (.if_icmp .ge 7, 3) := by decide +kernel
theorem dX1_has_12 : decode cX1_has 12 = .ok (.iconst 1, 1) := by decide +kernel
theorem dX1_has_13 : decode cX1_has 13 = .ok (.goto 4, 3) := by decide +kernel
theorem dX1_has_16 : decode cX1_has 16 = .ok (.iconst 0, 1) := by decide +kernel
theorem dX1_has_17 : decode cX1_has 17 = .ok (.ireturn, 1) := by decide +kernel
set_option maxRecDepth 20000 in
theorem ggX1_mayFollow_X1_has : GoodIn wsX1_mayFollow wsX1_has := goodIn_r _ [6, 7, 11, 12, 13, 14, 15, 16] (by decide +kernel) (by decide +kernel)
set_option maxRecDepth 20000 in
theorem gX1_mayFollow_X1_has : GoodIn wsX1_mayFollow (wsV RX1 42 RX1 yX1_has wsX1_has) := goodIn_app (goodIn_of _ (by decide +kernel)) ggX1_mayFollow_X1_has
set_option maxRecDepth 20000 in
theorem ggX1_mayFollow_X1_holds : GoodIn wsX1_mayFollow wsX1_holds := goodIn_r _ [10] (by decide +kernel) (by decide +kernel)
set_option maxRecDepth 20000 in
theorem gX1_mayFollow_X1_holds : GoodIn wsX1_mayFollow (va_wsS RX1 46 yX1_holds wsX1_holds) := goodIn_app (goodIn_of _ (by decide +kernel)) ggX1_mayFollow_X1_holds
theorem dX1_mayFollow_0 : decode cX1_mayFollow 0 = .ok (.aload_n 0, 1) := by decide +kernel
theorem dX1_mayFollow_1 : decode cX1_mayFollow 1 = .ok (.iload_n 1, 1) := by decide +kernel
theorem dX1_mayFollow_2 : decode cX1_mayFollow 2 = .ok (.invokevirtual 42, 3) := by decide +kernel
theorem dX1_mayFollow_5 : decode cX1_mayFollow 5 = .ok (.ifCond .eq 28, 3) := by decide +kernel
theorem dX1_mayFollow_8 : decode cX1_mayFollow 8 = .ok (.aload_n 0, 1) := by decide +kernel
theorem dX1_mayFollow_9 : decode cX1_mayFollow 9 = .ok (.iload_n 2, 1) := by decide +kernel
theorem dX1_mayFollow_10 : decode cX1_mayFollow 10 = .ok (.invokevirtual 42, 3) := by decide +kernel
theorem dX1_mayFollow_13 : decode cX1_mayFollow 13 = .ok (.ifCond .eq 20, 3) := by decide +kernel
theorem dX1_mayFollow_16 : decode cX1_mayFollow 16 = .ok (.aload_n 0, 1) := by decide +kernel
theorem dX1_mayFollow_17 : decode cX1_mayFollow 17 = .ok (.getfield 9, 3) := by decide +kernel
theorem dX1_mayFollow_20 : decode cX1_mayFollow 20 = .ok (.iload_n 1, 1) := by decide +kernel
theorem dX1_mayFollow_21 : decode cX1_mayFollow 21 = .ok (.iaload, 1) := by decide +kernel
theorem dX1_mayFollow_22 : decode cX1_mayFollow 22 = .ok (.iload_n 2, 1) := by decide +kernel
theorem dX1_mayFollow_23 : decode cX1_mayFollow 23 = .ok (.invokestatic 46, 3) := by decide +kernel
theorem dX1_mayFollow_26 : decode cX1_mayFollow 26 = .ok (.ifCond .eq 7, 3) := by decide +kernel
theorem dX1_mayFollow_29 : decode cX1_mayFollow 29 = .ok (.iconst 1, 1) := by decide +kernel
theorem dX1_mayFollow_30 : decode cX1_mayFollow 30 = .ok (.goto 4, 3) := by decide +kernel
theorem dX1_mayFollow_33 : decode cX1_mayFollow 33 = .ok (.iconst 0, 1) := by decide +kernel
theorem dX1_mayFollow_34 : decode cX1_mayFollow 34 = .ok (.ireturn, 1) := by decide +kernel
set_option maxRecDepth 20000 in
theorem ggX1_decide_X1_has : GoodIn wsX1_decide wsX1_has := goodIn_r _ [6, 7, 8, 9, 10, 11, 12, 13] (by decide +kernel) (by decide +kernel)
set_option maxRecDepth 20000 in
theorem gX1_decide_X1_has : GoodIn wsX1_decide (wsV RX1 42 RX1 yX1_has wsX1_has) := goodIn_app (goodIn_of _ (by decide +kernel)) ggX1_decide_X1_has
theorem dX1_decide_0 : decode cX1_decide 0 = .ok (.aload_n 0, 1) := by decide +kernel
theorem dX1_decide_1 : decode cX1_decide 1 = .ok (.iload_n 1, 1) := by decide +kernel
theorem dX1_decide_2 : decode cX1_decide 2 = .ok (.invokevirtual 42, 3) := by decide +kernel
theorem dX1_decide_5 : decode cX1_decide 5 = .ok (.ifCond .eq 46, 3) := by decide +kernel
theorem dX1_decide_8 : decode cX1_decide 8 = .ok (.aload_n 0, 1) := by decide +kernel
theorem dX1_decide_9 : decode cX1_decide 9 = .ok (.iload_n 2, 1) := by decide +kernel
theorem dX1_decide_10 : decode cX1_decide 10 = .ok (.invokevirtual 42, 3) := by decide +kernel
theorem dX1_decide_13 : decode cX1_decide 13 = .ok (.ifCond .eq 38, 3) := by decide +kernel
theorem dX1_decide_16 : decode cX1_decide 16 = .ok (.aload_n 0, 1) := by decide +kernel
theorem dX1_decide_17 : decode cX1_decide 17 = .ok (.getfield 9, 3) := by decide +kernel
theorem dX1_decide_20 : decode cX1_decide 20 = .ok (.iload_n 1, 1) := by decide +kernel
theorem dX1_decide_21 : decode cX1_decide 21 = .ok (.iload_n 3, 1) := by decide +kernel
theorem dX1_decide_22 : decode cX1_decide 22 = .ok (.ifCond .eq 16, 3) := by decide +kernel
theorem dX1_decide_25 : decode cX1_decide 25 = .ok (.aload_n 0, 1) := by decide +kernel
theorem dX1_decide_26 : decode cX1_decide 26 = .ok (.getfield 9, 3) := by decide +kernel
theorem dX1_decide_29 : decode cX1_decide 29 = .ok (.iload_n 1, 1) := by decide +kernel
theorem dX1_decide_30 : decode cX1_decide 30 = .ok (.iaload, 1) := by decide +kernel
theorem dX1_decide_31 : decode cX1_decide 31 = .ok (.iconst 1, 1) := by decide +kernel
theorem dX1_decide_32 : decode cX1_decide 32 = .ok (.iload_n 2, 1) := by decide +kernel
theorem dX1_decide_33 : decode cX1_decide 33 = .ok (.ishl, 1) := by decide +kernel
theorem dX1_decide_34 : decode cX1_decide 34 = .ok (.ior, 1) := by decide +kernel
theorem dX1_decide_35 : decode cX1_decide 35 = .ok (.goto 15, 3) := by decide +kernel
theorem dX1_decide_38 : decode cX1_decide 38 = .ok (.aload_n 0, 1) := by decide +kernel
theorem dX1_decide_39 : decode cX1_decide 39 = .ok (.getfield 9, 3) := by decide +kernel
theorem dX1_decide_42 : decode cX1_decide 42 = .ok (.iload_n 1, 1) := by decide +kernel
theorem dX1_decide_43 : decode cX1_decide 43 = .ok (.iaload, 1) := by decide +kernel
theorem dX1_decide_44 : decode cX1_decide 44 = .ok (.iconst 1, 1) := by decide +kernel
theorem dX1_decide_45 : decode cX1_decide 45 = .ok (.iload_n 2, 1) := by decide +kernel
theorem dX1_decide_46 : decode cX1_decide 46 = .ok (.ishl, 1) := by decide +kernel
theorem dX1_decide_47 : decode cX1_decide 47 = .ok (.iconst (-1), 1) := by decide +kernel
theorem dX1_decide_48 : decode cX1_decide 48 = .ok (.ixor, 1) := by decide +kernel
theorem dX1_decide_49 : decode cX1_decide 49 = .ok (.iand, 1) := by decide +kernel
theorem dX1_decide_50 : decode cX1_decide 50 = .ok (.iastore, 1) := by decide +kernel
theorem dX1_decide_51 : decode cX1_decide 51 = .ok (.return_, 1) := by decide +kernel
set_option maxRecDepth 20000 in
theorem ggX1_pairCount_J6_bitCount_0f7a4 : GoodIn wsX1_pairCount wsJ6_bitCount_0f7a4 := goodIn_r _ [6, 7, 8, 9] (by decide +kernel) (by decide +kernel)
set_option maxRecDepth 20000 in
theorem gX1_pairCount_J6_bitCount_0f7a4 : GoodIn wsX1_pairCount (va_wsS RX1 50 yJ6_bitCount_0f7a4 wsJ6_bitCount_0f7a4) := goodIn_app (goodIn_of _ (by decide +kernel)) ggX1_pairCount_J6_bitCount_0f7a4
theorem dX1_pairCount_0 : decode cX1_pairCount 0 = .ok (.iconst 0, 1) := by decide +kernel
theorem dX1_pairCount_1 : decode cX1_pairCount 1 = .ok (.istore_n 1, 1) := by decide +kernel
theorem dX1_pairCount_2 : decode cX1_pairCount 2 = .ok (.iconst 0, 1) := by decide +kernel
theorem dX1_pairCount_3 : decode cX1_pairCount 3 = .ok (.istore_n 2, 1) := by decide +kernel
theorem dX1_pairCount_4 : decode cX1_pairCount 4 = .ok (.iload_n 2, 1) := by decide +kernel
theorem dX1_pairCount_5 : decode cX1_pairCount 5 = .ok (.aload_n 0, 1) := by decide +kernel
theorem dX1_pairCount_6 : decode cX1_pairCount 6 = .ok (.getfield 38, 3) := by decide +kernel
theorem dX1_pairCount_9 : decode cX1_pairCount 9 = .ok (.if_icmp .ge 21, 3) := by decide +kernel
theorem dX1_pairCount_12 : decode cX1_pairCount 12 = .ok (.iload_n 1, 1) := by decide +kernel
theorem dX1_pairCount_13 : decode cX1_pairCount 13 = .ok (.aload_n 0, 1) := by decide +kernel
theorem dX1_pairCount_14 : decode cX1_pairCount 14 = .ok (.getfield 9, 3) := by decide +kernel
theorem dX1_pairCount_17 : decode cX1_pairCount 17 = .ok (.iload_n 2, 1) := by decide +kernel
theorem dX1_pairCount_18 : decode cX1_pairCount 18 = .ok (.iaload, 1) := by decide +kernel
theorem dX1_pairCount_19 : decode cX1_pairCount 19 = .ok (.invokestatic 50, 3) := by decide +kernel
theorem dX1_pairCount_22 : decode cX1_pairCount 22 = .ok (.iadd, 1) := by decide +kernel
theorem dX1_pairCount_23 : decode cX1_pairCount 23 = .ok (.istore_n 1, 1) := by decide +kernel
theorem dX1_pairCount_24 : decode cX1_pairCount 24 = .ok (.iinc 2 1, 3) := by decide +kernel
theorem dX1_pairCount_27 : decode cX1_pairCount 27 = .ok (.goto (-23), 3) := by decide +kernel
theorem dX1_pairCount_30 : decode cX1_pairCount 30 = .ok (.iload_n 1, 1) := by decide +kernel
theorem dX1_pairCount_31 : decode cX1_pairCount 31 = .ok (.ireturn, 1) := by decide +kernel
set_option maxRecDepth 20000 in
theorem ggX1_ringCount_X1_walkCount : GoodIn wsX1_ringCount wsX1_walkCount := goodIn_r _ [11, 12, 13, 14, 15, 10, 16, 1, 17, 18, 19, 20, 21, 22, 23, 24, 25, 2, 3, 4, 5, 6, 26, 27, 28, 29, 30, 31, 32, 33, 34, 35, 36, 37, 38, 39, 40, 41, 42, 43] (by decide +kernel) (by decide +kernel)
set_option maxRecDepth 20000 in
theorem gX1_ringCount_X1_walkCount : GoodIn wsX1_ringCount (wsV RX1 56 RX1 yX1_walkCount wsX1_walkCount) := goodIn_app (goodIn_of _ (by decide +kernel)) ggX1_ringCount_X1_walkCount
theorem dX1_ringCount_0 : decode cX1_ringCount 0 = .ok (.lconst 0, 1) := by decide +kernel
theorem dX1_ringCount_1 : decode cX1_ringCount 1 = .ok (.lstore_n 2, 1) := by decide +kernel
theorem dX1_ringCount_2 : decode cX1_ringCount 2 = .ok (.iconst 0, 1) := by decide +kernel
theorem dX1_ringCount_3 : decode cX1_ringCount 3 = .ok (.istore 4, 2) := by decide +kernel
theorem dX1_ringCount_5 : decode cX1_ringCount 5 = .ok (.iload 4, 2) := by decide +kernel
theorem dX1_ringCount_7 : decode cX1_ringCount 7 = .ok (.aload_n 0, 1) := by decide +kernel
theorem dX1_ringCount_8 : decode cX1_ringCount 8 = .ok (.getfield 38, 3) := by decide +kernel
theorem dX1_ringCount_11 : decode cX1_ringCount 11 = .ok (.if_icmp .ge 21, 3) := by decide +kernel
theorem dX1_ringCount_14 : decode cX1_ringCount 14 = .ok (.lload_n 2, 1) := by decide +kernel
theorem dX1_ringCount_15 : decode cX1_ringCount 15 = .ok (.aload_n 0, 1) := by decide +kernel
theorem dX1_ringCount_16 : decode cX1_ringCount 16 = .ok (.iload 4, 2) := by decide +kernel
theorem dX1_ringCount_18 : decode cX1_ringCount 18 = .ok (.iload 4, 2) := by decide +kernel
theorem dX1_ringCount_20 : decode cX1_ringCount 20 = .ok (.iload_n 1, 1) := by decide +kernel
theorem dX1_ringCount_21 : decode cX1_ringCount 21 = .ok (.invokevirtual 56, 3) := by decide +kernel
theorem dX1_ringCount_24 : decode cX1_ringCount 24 = .ok (.ladd, 1) := by decide +kernel
theorem dX1_ringCount_25 : decode cX1_ringCount 25 = .ok (.lstore_n 2, 1) := by decide +kernel
theorem dX1_ringCount_26 : decode cX1_ringCount 26 = .ok (.iinc 4 1, 3) := by decide +kernel
theorem dX1_ringCount_29 : decode cX1_ringCount 29 = .ok (.goto (-24), 3) := by decide +kernel
theorem dX1_ringCount_32 : decode cX1_ringCount 32 = .ok (.lload_n 2, 1) := by decide +kernel
theorem dX1_ringCount_33 : decode cX1_ringCount 33 = .ok (.ldc2_w 60, 3) := by decide +kernel
theorem dX1_ringCount_36 : decode cX1_ringCount 36 = .ok (.invokestatic 62, 3) := by decide +kernel
theorem dX1_ringCount_39 : decode cX1_ringCount 39 = .ok (.lreturn, 1) := by decide +kernel
set_option maxRecDepth 20000 in
theorem ggX1_walkCount_X1_has : GoodIn wsX1_walkCount wsX1_has := goodIn_r _ [6, 7, 34, 35, 36, 37, 38, 39] (by decide +kernel) (by decide +kernel)
set_option maxRecDepth 20000 in
theorem gX1_walkCount_X1_has : GoodIn wsX1_walkCount (wsV RX1 42 RX1 yX1_has wsX1_has) := goodIn_app (goodIn_of _ (by decide +kernel)) ggX1_walkCount_X1_has
set_option maxRecDepth 20000 in
theorem ggX1_walkCount_J7_fill_d0a16 : GoodIn wsX1_walkCount wsJ7_fill_d0a16 := goodIn_r _ [11] (by decide +kernel) (by decide +kernel)
set_option maxRecDepth 20000 in
theorem gX1_walkCount_J7_fill_d0a16 : GoodIn wsX1_walkCount (va_wsS RX1 65 yJ7_fill_d0a16 wsJ7_fill_d0a16) := goodIn_app (goodIn_of _ (by decide +kernel)) ggX1_walkCount_J7_fill_d0a16
set_option maxRecDepth 20000 in
theorem ggX1_walkCount_X1_stepOn : GoodIn wsX1_walkCount wsX1_stepOn := goodIn_r _ [15, 7, 1, 16, 17, 18, 19, 20, 21, 22, 23, 24, 25, 26, 27, 28, 5, 29, 30, 2, 3, 4, 6, 31, 32, 33, 34, 35, 36, 37, 38, 39] (by decide +kernel) (by decide +kernel)
set_option maxRecDepth 20000 in
theorem gX1_walkCount_X1_stepOn : GoodIn wsX1_walkCount (wsV RX1 71 RX1 yX1_stepOn wsX1_stepOn) := goodIn_app (goodIn_of _ (by decide +kernel)) ggX1_walkCount_X1_stepOn
theorem dX1_walkCount_0 : decode cX1_walkCount 0 = .ok (.aload_n 0, 1) := by decide +kernel
theorem dX1_walkCount_1 : decode cX1_walkCount 1 = .ok (.iload_n 1, 1) := by decide +kernel
theorem dX1_walkCount_2 : decode cX1_walkCount 2 = .ok (.invokevirtual 42, 3) := by decide +kernel
theorem dX1_walkCount_5 : decode cX1_walkCount 5 = .ok (.ifCond .eq 11, 3) := by decide +kernel
theorem dX1_walkCount_8 : decode cX1_walkCount 8 = .ok (.aload_n 0, 1) := by decide +kernel
theorem dX1_walkCount_9 : decode cX1_walkCount 9 = .ok (.iload_n 2, 1) := by decide +kernel
theorem dX1_walkCount_10 : decode cX1_walkCount 10 = .ok (.invokevirtual 42, 3) := by decide +kernel
theorem dX1_walkCount_13 : decode cX1_walkCount 13 = .ok (.ifCond .ne 5, 3) := by decide +kernel
theorem dX1_walkCount_16 : decode cX1_walkCount 16 = .ok (.lconst 0, 1) := by decide +kernel
theorem dX1_walkCount_17 : decode cX1_walkCount 17 = .ok (.lreturn, 1) := by decide +kernel
theorem dX1_walkCount_18 : decode cX1_walkCount 18 = .ok (.aload_n 0, 1) := by decide +kernel
theorem dX1_walkCount_19 : decode cX1_walkCount 19 = .ok (.getfield 21, 3) := by decide +kernel
theorem dX1_walkCount_22 : decode cX1_walkCount 22 = .ok (.lconst 0, 1) := by decide +kernel
theorem dX1_walkCount_23 : decode cX1_walkCount 23 = .ok (.invokestatic 65, 3) := by decide +kernel
theorem dX1_walkCount_26 : decode cX1_walkCount 26 = .ok (.aload_n 0, 1) := by decide +kernel
theorem dX1_walkCount_27 : decode cX1_walkCount 27 = .ok (.getfield 21, 3) := by decide +kernel
theorem dX1_walkCount_30 : decode cX1_walkCount 30 = .ok (.iload_n 1, 1) := by decide +kernel
theorem dX1_walkCount_31 : decode cX1_walkCount 31 = .ok (.lconst 1, 1) := by decide +kernel
theorem dX1_walkCount_32 : decode cX1_walkCount 32 = .ok (.lastore, 1) := by decide +kernel
theorem dX1_walkCount_33 : decode cX1_walkCount 33 = .ok (.iconst 0, 1) := by decide +kernel
theorem dX1_walkCount_34 : decode cX1_walkCount 34 = .ok (.istore 4, 2) := by decide +kernel
theorem dX1_walkCount_36 : decode cX1_walkCount 36 = .ok (.iload 4, 2) := by decide +kernel
theorem dX1_walkCount_38 : decode cX1_walkCount 38 = .ok (.iload_n 3, 1) := by decide +kernel
theorem dX1_walkCount_39 : decode cX1_walkCount 39 = .ok (.if_icmp .ge 13, 3) := by decide +kernel
theorem dX1_walkCount_42 : decode cX1_walkCount 42 = .ok (.aload_n 0, 1) := by decide +kernel
theorem dX1_walkCount_43 : decode cX1_walkCount 43 = .ok (.invokevirtual 71, 3) := by decide +kernel
theorem dX1_walkCount_46 : decode cX1_walkCount 46 = .ok (.iinc 4 1, 3) := by decide +kernel
theorem dX1_walkCount_49 : decode cX1_walkCount 49 = .ok (.goto (-13), 3) := by decide +kernel
theorem dX1_walkCount_52 : decode cX1_walkCount 52 = .ok (.aload_n 0, 1) := by decide +kernel
theorem dX1_walkCount_53 : decode cX1_walkCount 53 = .ok (.getfield 21, 3) := by decide +kernel
theorem dX1_walkCount_56 : decode cX1_walkCount 56 = .ok (.iload_n 2, 1) := by decide +kernel
theorem dX1_walkCount_57 : decode cX1_walkCount 57 = .ok (.laload, 1) := by decide +kernel
theorem dX1_walkCount_58 : decode cX1_walkCount 58 = .ok (.lreturn, 1) := by decide +kernel
set_option maxRecDepth 20000 in
theorem ggX1_stepOn_X1_mayFollow : GoodIn wsX1_stepOn wsX1_mayFollow := goodIn_r _ [17, 18, 19, 20, 21, 16, 22, 1, 23, 24, 25, 26, 27, 28, 29, 30, 31] (by decide +kernel) (by decide +kernel)
set_option maxRecDepth 20000 in
theorem gX1_stepOn_X1_mayFollow : GoodIn wsX1_stepOn (wsV RX1 74 RX1 yX1_mayFollow wsX1_mayFollow) := goodIn_app (goodIn_of _ (by decide +kernel)) ggX1_stepOn_X1_mayFollow
theorem dX1_stepOn_0 : decode cX1_stepOn 0 = .ok (.iconst 0, 1) := by decide +kernel
theorem dX1_stepOn_1 : decode cX1_stepOn 1 = .ok (.istore_n 1, 1) := by decide +kernel
theorem dX1_stepOn_2 : decode cX1_stepOn 2 = .ok (.iload_n 1, 1) := by decide +kernel
theorem dX1_stepOn_3 : decode cX1_stepOn 3 = .ok (.aload_n 0, 1) := by decide +kernel
theorem dX1_stepOn_4 : decode cX1_stepOn 4 = .ok (.getfield 38, 3) := by decide +kernel
theorem dX1_stepOn_7 : decode cX1_stepOn 7 = .ok (.if_icmp .ge 62, 3) := by decide +kernel
theorem dX1_stepOn_10 : decode cX1_stepOn 10 = .ok (.lconst 0, 1) := by decide +kernel
theorem dX1_stepOn_11 : decode cX1_stepOn 11 = .ok (.lstore_n 2, 1) := by decide +kernel
theorem dX1_stepOn_12 : decode cX1_stepOn 12 = .ok (.iconst 0, 1) := by decide +kernel
theorem dX1_stepOn_13 : decode cX1_stepOn 13 = .ok (.istore 4, 2) := by decide +kernel
theorem dX1_stepOn_15 : decode cX1_stepOn 15 = .ok (.iload 4, 2) := by decide +kernel
theorem dX1_stepOn_17 : decode cX1_stepOn 17 = .ok (.aload_n 0, 1) := by decide +kernel
theorem dX1_stepOn_18 : decode cX1_stepOn 18 = .ok (.getfield 38, 3) := by decide +kernel
theorem dX1_stepOn_21 : decode cX1_stepOn 21 = .ok (.if_icmp .ge 29, 3) := by decide +kernel
theorem dX1_stepOn_24 : decode cX1_stepOn 24 = .ok (.aload_n 0, 1) := by decide +kernel
theorem dX1_stepOn_25 : decode cX1_stepOn 25 = .ok (.iload 4, 2) := by decide +kernel
theorem dX1_stepOn_27 : decode cX1_stepOn 27 = .ok (.iload_n 1, 1) := by decide +kernel
theorem dX1_stepOn_28 : decode cX1_stepOn 28 = .ok (.invokevirtual 74, 3) := by decide +kernel
theorem dX1_stepOn_31 : decode cX1_stepOn 31 = .ok (.ifCond .eq 13, 3) := by decide +kernel
theorem dX1_stepOn_34 : decode cX1_stepOn 34 = .ok (.lload_n 2, 1) := by decide +kernel
theorem dX1_stepOn_35 : decode cX1_stepOn 35 = .ok (.aload_n 0, 1) := by decide +kernel
theorem dX1_stepOn_36 : decode cX1_stepOn 36 = .ok (.getfield 21, 3) := by decide +kernel
theorem dX1_stepOn_39 : decode cX1_stepOn 39 = .ok (.iload 4, 2) := by decide +kernel
theorem dX1_stepOn_41 : decode cX1_stepOn 41 = .ok (.laload, 1) := by decide +kernel
theorem dX1_stepOn_42 : decode cX1_stepOn 42 = .ok (.ladd, 1) := by decide +kernel
theorem dX1_stepOn_43 : decode cX1_stepOn 43 = .ok (.lstore_n 2, 1) := by decide +kernel
theorem dX1_stepOn_44 : decode cX1_stepOn 44 = .ok (.iinc 4 1, 3) := by decide +kernel
theorem dX1_stepOn_47 : decode cX1_stepOn 47 = .ok (.goto (-32), 3) := by decide +kernel
theorem dX1_stepOn_50 : decode cX1_stepOn 50 = .ok (.aload_n 0, 1) := by decide +kernel
theorem dX1_stepOn_51 : decode cX1_stepOn 51 = .ok (.getfield 25, 3) := by decide +kernel
theorem dX1_stepOn_54 : decode cX1_stepOn 54 = .ok (.iload_n 1, 1) := by decide +kernel
theorem dX1_stepOn_55 : decode cX1_stepOn 55 = .ok (.lload_n 2, 1) := by decide +kernel
theorem dX1_stepOn_56 : decode cX1_stepOn 56 = .ok (.ldc2_w 60, 3) := by decide +kernel
theorem dX1_stepOn_59 : decode cX1_stepOn 59 = .ok (.invokestatic 62, 3) := by decide +kernel
theorem dX1_stepOn_62 : decode cX1_stepOn 62 = .ok (.lastore, 1) := by decide +kernel
theorem dX1_stepOn_63 : decode cX1_stepOn 63 = .ok (.iinc 1 1, 3) := by decide +kernel
theorem dX1_stepOn_66 : decode cX1_stepOn 66 = .ok (.goto (-64), 3) := by decide +kernel
theorem dX1_stepOn_69 : decode cX1_stepOn 69 = .ok (.aload_n 0, 1) := by decide +kernel
theorem dX1_stepOn_70 : decode cX1_stepOn 70 = .ok (.getfield 25, 3) := by decide +kernel
theorem dX1_stepOn_73 : decode cX1_stepOn 73 = .ok (.iconst 0, 1) := by decide +kernel
theorem dX1_stepOn_74 : decode cX1_stepOn 74 = .ok (.aload_n 0, 1) := by decide +kernel
theorem dX1_stepOn_75 : decode cX1_stepOn 75 = .ok (.getfield 21, 3) := by decide +kernel
theorem dX1_stepOn_78 : decode cX1_stepOn 78 = .ok (.iconst 0, 1) := by decide +kernel
theorem dX1_stepOn_79 : decode cX1_stepOn 79 = .ok (.aload_n 0, 1) := by decide +kernel
theorem dX1_stepOn_80 : decode cX1_stepOn 80 = .ok (.getfield 38, 3) := by decide +kernel
theorem dX1_stepOn_83 : decode cX1_stepOn 83 = .ok (.invokestatic 77, 3) := by decide +kernel
theorem dX1_stepOn_86 : decode cX1_stepOn 86 = .ok (.return_, 1) := by decide +kernel
set_option maxRecDepth 20000 in
theorem ggX1_findRing_X1_findWalk : GoodIn wsX1_findRing wsX1_findWalk := goodIn_r _ [6, 7, 8, 9, 10, 11, 12, 5, 13, 1, 14, 15, 16, 17, 18, 19, 20, 21, 22, 23, 24, 25, 26, 27, 28, 29] (by decide +kernel) (by decide +kernel)
set_option maxRecDepth 20000 in
theorem gX1_findRing_X1_findWalk : GoodIn wsX1_findRing (wsV RX1 83 RX1 yX1_findWalk wsX1_findWalk) := goodIn_app (goodIn_of _ (by decide +kernel)) ggX1_findRing_X1_findWalk
theorem dX1_findRing_0 : decode cX1_findRing 0 = .ok (.iconst 0, 1) := by decide +kernel
theorem dX1_findRing_1 : decode cX1_findRing 1 = .ok (.istore_n 2, 1) := by decide +kernel
theorem dX1_findRing_2 : decode cX1_findRing 2 = .ok (.iload_n 2, 1) := by decide +kernel
theorem dX1_findRing_3 : decode cX1_findRing 3 = .ok (.aload_n 0, 1) := by decide +kernel
theorem dX1_findRing_4 : decode cX1_findRing 4 = .ok (.getfield 38, 3) := by decide +kernel
theorem dX1_findRing_7 : decode cX1_findRing 7 = .ok (.if_icmp .ge 21, 3) := by decide +kernel
theorem dX1_findRing_10 : decode cX1_findRing 10 = .ok (.aload_n 0, 1) := by decide +kernel
theorem dX1_findRing_11 : decode cX1_findRing 11 = .ok (.iload_n 2, 1) := by decide +kernel
theorem dX1_findRing_12 : decode cX1_findRing 12 = .ok (.iload_n 2, 1) := by decide +kernel
theorem dX1_findRing_13 : decode cX1_findRing 13 = .ok (.iload_n 1, 1) := by decide +kernel
theorem dX1_findRing_14 : decode cX1_findRing 14 = .ok (.invokevirtual 83, 3) := by decide +kernel
theorem dX1_findRing_17 : decode cX1_findRing 17 = .ok (.ifCond .eq 5, 3) := by decide +kernel
theorem dX1_findRing_20 : decode cX1_findRing 20 = .ok (.iconst 1, 1) := by decide +kernel
theorem dX1_findRing_21 : decode cX1_findRing 21 = .ok (.ireturn, 1) := by decide +kernel
theorem dX1_findRing_22 : decode cX1_findRing 22 = .ok (.iinc 2 1, 3) := by decide +kernel
theorem dX1_findRing_25 : decode cX1_findRing 25 = .ok (.goto (-23), 3) := by decide +kernel
theorem dX1_findRing_28 : decode cX1_findRing 28 = .ok (.iconst 0, 1) := by decide +kernel
theorem dX1_findRing_29 : decode cX1_findRing 29 = .ok (.ireturn, 1) := by decide +kernel
set_option maxRecDepth 20000 in
theorem ggX1_findWalk_X1_has : GoodIn wsX1_findWalk wsX1_has := goodIn_r _ [8, 9, 20, 21, 22, 23, 24, 25] (by decide +kernel) (by decide +kernel)
set_option maxRecDepth 20000 in
theorem gX1_findWalk_X1_has : GoodIn wsX1_findWalk (wsV RX1 42 RX1 yX1_has wsX1_has) := goodIn_app (goodIn_of _ (by decide +kernel)) ggX1_findWalk_X1_has
set_option maxRecDepth 20000 in
theorem ggX1_findWalk_X1_lookBack : GoodIn wsX1_findWalk wsX1_lookBack := goodIn_r _ [13, 1, 9, 3, 20, 21, 22, 23, 24, 25] (by decide +kernel) (by decide +kernel)
set_option maxRecDepth 20000 in
theorem gX1_findWalk_X1_lookBack : GoodIn wsX1_findWalk (wsV RX1 87 RX1 yX1_lookBack wsX1_lookBack) := goodIn_app (goodIn_of _ (by decide +kernel)) ggX1_findWalk_X1_lookBack
set_option maxRecDepth 20000 in
theorem ggX1_findWalk_X1_holds : GoodIn wsX1_findWalk wsX1_holds := goodIn_r _ [16] (by decide +kernel) (by decide +kernel)
set_option maxRecDepth 20000 in
theorem gX1_findWalk_X1_holds : GoodIn wsX1_findWalk (va_wsS RX1 46 yX1_holds wsX1_holds) := goodIn_app (goodIn_of _ (by decide +kernel)) ggX1_findWalk_X1_holds
set_option maxRecDepth 20000 in
theorem ggX1_findWalk_X1_least : GoodIn wsX1_findWalk wsX1_least := goodIn_r _ [19, 14, 15, 7, 16] (by decide +kernel) (by decide +kernel)
set_option maxRecDepth 20000 in
theorem gX1_findWalk_X1_least : GoodIn wsX1_findWalk (va_wsS RX1 91 yX1_least wsX1_least) := goodIn_app (goodIn_of _ (by decide +kernel)) ggX1_findWalk_X1_least
theorem dX1_findWalk_0 : decode cX1_findWalk 0 = .ok (.aload_n 0, 1) := by decide +kernel
theorem dX1_findWalk_1 : decode cX1_findWalk 1 = .ok (.iload_n 1, 1) := by decide +kernel
theorem dX1_findWalk_2 : decode cX1_findWalk 2 = .ok (.invokevirtual 42, 3) := by decide +kernel
theorem dX1_findWalk_5 : decode cX1_findWalk 5 = .ok (.ifCond .eq 21, 3) := by decide +kernel
theorem dX1_findWalk_8 : decode cX1_findWalk 8 = .ok (.aload_n 0, 1) := by decide +kernel
theorem dX1_findWalk_9 : decode cX1_findWalk 9 = .ok (.iload_n 2, 1) := by decide +kernel
theorem dX1_findWalk_10 : decode cX1_findWalk 10 = .ok (.invokevirtual 42, 3) := by decide +kernel
theorem dX1_findWalk_13 : decode cX1_findWalk 13 = .ok (.ifCond .eq 13, 3) := by decide +kernel
theorem dX1_findWalk_16 : decode cX1_findWalk 16 = .ok (.iload_n 3, 1) := by decide +kernel
theorem dX1_findWalk_17 : decode cX1_findWalk 17 = .ok (.ifCond .lt 9, 3) := by decide +kernel
theorem dX1_findWalk_20 : decode cX1_findWalk 20 = .ok (.iload_n 3, 1) := by decide +kernel
theorem dX1_findWalk_21 : decode cX1_findWalk 21 = .ok (.bipush 60, 2) := by decide +kernel
theorem dX1_findWalk_23 : decode cX1_findWalk 23 = .ok (.if_icmp .le 5, 3) := by decide +kernel
theorem dX1_findWalk_26 : decode cX1_findWalk 26 = .ok (.iconst 0, 1) := by decide +kernel
theorem dX1_findWalk_27 : decode cX1_findWalk 27 = .ok (.ireturn, 1) := by decide +kernel
theorem dX1_findWalk_28 : decode cX1_findWalk 28 = .ok (.aload_n 0, 1) := by decide +kernel
theorem dX1_findWalk_29 : decode cX1_findWalk 29 = .ok (.iload_n 2, 1) := by decide +kernel
theorem dX1_findWalk_30 : decode cX1_findWalk 30 = .ok (.iload_n 3, 1) := by decide +kernel
theorem dX1_findWalk_31 : decode cX1_findWalk 31 = .ok (.invokevirtual 87, 3) := by decide +kernel
theorem dX1_findWalk_34 : decode cX1_findWalk 34 = .ok (.aload_n 0, 1) := by decide +kernel
theorem dX1_findWalk_35 : decode cX1_findWalk 35 = .ok (.getfield 18, 3) := by decide +kernel
theorem dX1_findWalk_38 : decode cX1_findWalk 38 = .ok (.iload_n 3, 1) := by decide +kernel
theorem dX1_findWalk_39 : decode cX1_findWalk 39 = .ok (.iaload, 1) := by decide +kernel
theorem dX1_findWalk_40 : decode cX1_findWalk 40 = .ok (.iload_n 1, 1) := by decide +kernel
theorem dX1_findWalk_41 : decode cX1_findWalk 41 = .ok (.invokestatic 46, 3) := by decide +kernel
theorem dX1_findWalk_44 : decode cX1_findWalk 44 = .ok (.ifCond .ne 5, 3) := by decide +kernel
theorem dX1_findWalk_47 : decode cX1_findWalk 47 = .ok (.iconst 0, 1) := by decide +kernel
theorem dX1_findWalk_48 : decode cX1_findWalk 48 = .ok (.ireturn, 1) := by decide +kernel
theorem dX1_findWalk_49 : decode cX1_findWalk 49 = .ok (.aload_n 0, 1) := by decide +kernel
theorem dX1_findWalk_50 : decode cX1_findWalk 50 = .ok (.getfield 15, 3) := by decide +kernel
theorem dX1_findWalk_53 : decode cX1_findWalk 53 = .ok (.iconst 0, 1) := by decide +kernel
theorem dX1_findWalk_54 : decode cX1_findWalk 54 = .ok (.iload_n 1, 1) := by decide +kernel
theorem dX1_findWalk_55 : decode cX1_findWalk 55 = .ok (.iastore, 1) := by decide +kernel
theorem dX1_findWalk_56 : decode cX1_findWalk 56 = .ok (.iload_n 1, 1) := by decide +kernel
theorem dX1_findWalk_57 : decode cX1_findWalk 57 = .ok (.istore 4, 2) := by decide +kernel
theorem dX1_findWalk_59 : decode cX1_findWalk 59 = .ok (.iconst 1, 1) := by decide +kernel
theorem dX1_findWalk_60 : decode cX1_findWalk 60 = .ok (.istore 5, 2) := by decide +kernel
theorem dX1_findWalk_62 : decode cX1_findWalk 62 = .ok (.iload 5, 2) := by decide +kernel
theorem dX1_findWalk_64 : decode cX1_findWalk 64 = .ok (.iload_n 3, 1) := by decide +kernel
theorem dX1_findWalk_65 : decode cX1_findWalk 65 = .ok (.if_icmp .gt 40, 3) := by decide +kernel
theorem dX1_findWalk_68 : decode cX1_findWalk 68 = .ok (.aload_n 0, 1) := by decide +kernel
theorem dX1_findWalk_69 : decode cX1_findWalk 69 = .ok (.getfield 9, 3) := by decide +kernel
theorem dX1_findWalk_72 : decode cX1_findWalk 72 = .ok (.iload 4, 2) := by decide +kernel
theorem dX1_findWalk_74 : decode cX1_findWalk 74 = .ok (.iaload, 1) := by decide +kernel
theorem dX1_findWalk_75 : decode cX1_findWalk 75 = .ok (.aload_n 0, 1) := by decide +kernel
theorem dX1_findWalk_76 : decode cX1_findWalk 76 = .ok (.getfield 18, 3) := by decide +kernel
theorem dX1_findWalk_79 : decode cX1_findWalk 79 = .ok (.iload_n 3, 1) := by decide +kernel
theorem dX1_findWalk_80 : decode cX1_findWalk 80 = .ok (.iload 5, 2) := by decide +kernel
theorem dX1_findWalk_82 : decode cX1_findWalk 82 = .ok (.isub, 1) := by decide +kernel
theorem dX1_findWalk_83 : decode cX1_findWalk 83 = .ok (.iaload, 1) := by decide +kernel
theorem dX1_findWalk_84 : decode cX1_findWalk 84 = .ok (.iand, 1) := by decide +kernel
theorem dX1_findWalk_85 : decode cX1_findWalk 85 = .ok (.invokestatic 91, 3) := by decide +kernel
theorem dX1_findWalk_88 : decode cX1_findWalk 88 = .ok (.istore 4, 2) := by decide +kernel
theorem dX1_findWalk_90 : decode cX1_findWalk 90 = .ok (.aload_n 0, 1) := by decide +kernel
theorem dX1_findWalk_91 : decode cX1_findWalk 91 = .ok (.getfield 15, 3) := by decide +kernel
theorem dX1_findWalk_94 : decode cX1_findWalk 94 = .ok (.iload 5, 2) := by decide +kernel
theorem dX1_findWalk_96 : decode cX1_findWalk 96 = .ok (.iload 4, 2) := by decide +kernel
theorem dX1_findWalk_98 : decode cX1_findWalk 98 = .ok (.iastore, 1) := by decide +kernel
theorem dX1_findWalk_99 : decode cX1_findWalk 99 = .ok (.iinc 5 1, 3) := by decide +kernel
theorem dX1_findWalk_102 : decode cX1_findWalk 102 = .ok (.goto (-40), 3) := by decide +kernel
theorem dX1_findWalk_105 : decode cX1_findWalk 105 = .ok (.iconst 1, 1) := by decide +kernel
theorem dX1_findWalk_106 : decode cX1_findWalk 106 = .ok (.ireturn, 1) := by decide +kernel
theorem dX1_lookBack_0 : decode cX1_lookBack 0 = .ok (.aload_n 0, 1) := by decide +kernel
theorem dX1_lookBack_1 : decode cX1_lookBack 1 = .ok (.getfield 18, 3) := by decide +kernel
theorem dX1_lookBack_4 : decode cX1_lookBack 4 = .ok (.iconst 0, 1) := by decide +kernel
theorem dX1_lookBack_5 : decode cX1_lookBack 5 = .ok (.iconst 1, 1) := by decide +kernel
theorem dX1_lookBack_6 : decode cX1_lookBack 6 = .ok (.iload_n 1, 1) := by decide +kernel
theorem dX1_lookBack_7 : decode cX1_lookBack 7 = .ok (.ishl, 1) := by decide +kernel
theorem dX1_lookBack_8 : decode cX1_lookBack 8 = .ok (.iastore, 1) := by decide +kernel
theorem dX1_lookBack_9 : decode cX1_lookBack 9 = .ok (.iconst 1, 1) := by decide +kernel
theorem dX1_lookBack_10 : decode cX1_lookBack 10 = .ok (.istore_n 3, 1) := by decide +kernel
theorem dX1_lookBack_11 : decode cX1_lookBack 11 = .ok (.iload_n 3, 1) := by decide +kernel
theorem dX1_lookBack_12 : decode cX1_lookBack 12 = .ok (.iload_n 2, 1) := by decide +kernel
theorem dX1_lookBack_13 : decode cX1_lookBack 13 = .ok (.if_icmp .gt 72, 3) := by decide +kernel
theorem dX1_lookBack_16 : decode cX1_lookBack 16 = .ok (.iload_n 3, 1) := by decide +kernel
theorem dX1_lookBack_17 : decode cX1_lookBack 17 = .ok (.bipush 60, 2) := by decide +kernel
theorem dX1_lookBack_19 : decode cX1_lookBack 19 = .ok (.if_icmp .gt 66, 3) := by decide +kernel
theorem dX1_lookBack_22 : decode cX1_lookBack 22 = .ok (.iconst 0, 1) := by decide +kernel
theorem dX1_lookBack_23 : decode cX1_lookBack 23 = .ok (.istore 4, 2) := by decide +kernel
theorem dX1_lookBack_25 : decode cX1_lookBack 25 = .ok (.iconst 0, 1) := by decide +kernel
theorem dX1_lookBack_26 : decode cX1_lookBack 26 = .ok (.istore 5, 2) := by decide +kernel
theorem dX1_lookBack_28 : decode cX1_lookBack 28 = .ok (.iload 5, 2) := by decide +kernel
theorem dX1_lookBack_30 : decode cX1_lookBack 30 = .ok (.aload_n 0, 1) := by decide +kernel
theorem dX1_lookBack_31 : decode cX1_lookBack 31 = .ok (.getfield 38, 3) := by decide +kernel
theorem dX1_lookBack_34 : decode cX1_lookBack 34 = .ok (.if_icmp .ge 37, 3) := by decide +kernel
theorem dX1_lookBack_37 : decode cX1_lookBack 37 = .ok (.aload_n 0, 1) := by decide +kernel
theorem dX1_lookBack_38 : decode cX1_lookBack 38 = .ok (.getfield 9, 3) := by decide +kernel
theorem dX1_lookBack_41 : decode cX1_lookBack 41 = .ok (.iload 5, 2) := by decide +kernel
theorem dX1_lookBack_43 : decode cX1_lookBack 43 = .ok (.iaload, 1) := by decide +kernel
theorem dX1_lookBack_44 : decode cX1_lookBack 44 = .ok (.aload_n 0, 1) := by decide +kernel
theorem dX1_lookBack_45 : decode cX1_lookBack 45 = .ok (.getfield 18, 3) := by decide +kernel
theorem dX1_lookBack_48 : decode cX1_lookBack 48 = .ok (.iload_n 3, 1) := by decide +kernel
theorem dX1_lookBack_49 : decode cX1_lookBack 49 = .ok (.iconst 1, 1) := by decide +kernel
theorem dX1_lookBack_50 : decode cX1_lookBack 50 = .ok (.isub, 1) := by decide +kernel
theorem dX1_lookBack_51 : decode cX1_lookBack 51 = .ok (.iaload, 1) := by decide +kernel
theorem dX1_lookBack_52 : decode cX1_lookBack 52 = .ok (.iand, 1) := by decide +kernel
theorem dX1_lookBack_53 : decode cX1_lookBack 53 = .ok (.ifCond .eq 12, 3) := by decide +kernel
theorem dX1_lookBack_56 : decode cX1_lookBack 56 = .ok (.iload 4, 2) := by decide +kernel
theorem dX1_lookBack_58 : decode cX1_lookBack 58 = .ok (.iconst 1, 1) := by decide +kernel
theorem dX1_lookBack_59 : decode cX1_lookBack 59 = .ok (.iload 5, 2) := by decide +kernel
theorem dX1_lookBack_61 : decode cX1_lookBack 61 = .ok (.ishl, 1) := by decide +kernel
theorem dX1_lookBack_62 : decode cX1_lookBack 62 = .ok (.ior, 1) := by decide +kernel
theorem dX1_lookBack_63 : decode cX1_lookBack 63 = .ok (.istore 4, 2) := by decide +kernel
theorem dX1_lookBack_65 : decode cX1_lookBack 65 = .ok (.iinc 5 1, 3) := by decide +kernel
theorem dX1_lookBack_68 : decode cX1_lookBack 68 = .ok (.goto (-40), 3) := by decide +kernel
theorem dX1_lookBack_71 : decode cX1_lookBack 71 = .ok (.aload_n 0, 1) := by decide +kernel
theorem dX1_lookBack_72 : decode cX1_lookBack 72 = .ok (.getfield 18, 3) := by decide +kernel
theorem dX1_lookBack_75 : decode cX1_lookBack 75 = .ok (.iload_n 3, 1) := by decide +kernel
theorem dX1_lookBack_76 : decode cX1_lookBack 76 = .ok (.iload 4, 2) := by decide +kernel
theorem dX1_lookBack_78 : decode cX1_lookBack 78 = .ok (.iastore, 1) := by decide +kernel
theorem dX1_lookBack_79 : decode cX1_lookBack 79 = .ok (.iinc 3 1, 3) := by decide +kernel
theorem dX1_lookBack_82 : decode cX1_lookBack 82 = .ok (.goto (-71), 3) := by decide +kernel
theorem dX1_lookBack_85 : decode cX1_lookBack 85 = .ok (.return_, 1) := by decide +kernel
set_option maxRecDepth 20000 in
theorem ggX1_leastOfBlock_X1_reachedFrom : GoodIn wsX1_leastOfBlock wsX1_reachedFrom := goodIn_r _ [5, 6, 7, 8, 9, 4, 10, 11, 12, 13, 14, 15, 16] (by decide +kernel) (by decide +kernel)
set_option maxRecDepth 20000 in
theorem gX1_leastOfBlock_X1_reachedFrom : GoodIn wsX1_leastOfBlock (wsV RX1 94 RX1 yX1_reachedFrom wsX1_reachedFrom) := goodIn_app (goodIn_of _ (by decide +kernel)) ggX1_leastOfBlock_X1_reachedFrom
set_option maxRecDepth 20000 in
theorem ggX1_leastOfBlock_X1_holds : GoodIn wsX1_leastOfBlock wsX1_holds := goodIn_r _ [10] (by decide +kernel) (by decide +kernel)
