set_option maxRecDepth 20000 in
theorem ggX0_init_X0_restart : GoodIn wsX0_init wsX0_restart := goodIn_r _ [11, 12, 13, 14, 15, 16, 6, 17, 18, 19, 10, 20, 5, 21, 22, 23, 24, 25, 26, 27] (by decide +kernel) (by decide +kernel)
set_option maxRecDepth 20000 in
theorem gX0_init_X0_restart : GoodIn wsX0_init (wsV RX0 18 RX0 yX0_restart wsX0_restart) := goodIn_app (goodIn_of _ (by decide +kernel)) ggX0_init_X0_restart
theorem dX0_init_0 : decode cX0_init 0 = .ok (.aload_n 0, 1) := by decide +kernel
theorem dX0_init_1 : decode cX0_init 1 = .ok (.invokespecial 3, 3) := by decide +kernel
theorem dX0_init_4 : decode cX0_init 4 = .ok (.aload_n 0, 1) := by decide +kernel
theorem dX0_init_5 : decode cX0_init 5 = .ok (.bipush 60, 2) := by decide +kernel
theorem dX0_init_7 : decode cX0_init 7 = .ok (.newarray .int, 2) := by decide +kernel
theorem dX0_init_9 : decode cX0_init 9 = .ok (.putfield 9, 3) := by decide +kernel
theorem dX0_init_12 : decode cX0_init 12 = .ok (.aload_n 0, 1) := by decide +kernel
theorem dX0_init_13 : decode cX0_init 13 = .ok (.bipush 60, 2) := by decide +kernel
theorem dX0_init_15 : decode cX0_init 15 = .ok (.newarray .int, 2) := by decide +kernel
theorem dX0_init_17 : decode cX0_init 17 = .ok (.putfield 15, 3) := by decide +kernel
theorem dX0_init_20 : decode cX0_init 20 = .ok (.aload_n 0, 1) := by decide +kernel
theorem dX0_init_21 : decode cX0_init 21 = .ok (.iload_n 1, 1) := by decide +kernel
theorem dX0_init_22 : decode cX0_init 22 = .ok (.invokevirtual 18, 3) := by decide +kernel
theorem dX0_init_25 : decode cX0_init 25 = .ok (.return_, 1) := by decide +kernel
set_option maxRecDepth 20000 in
theorem ggX0_restart_X0_clearLabels : GoodIn wsX0_restart wsX0_clearLabels := goodIn_r _ [11, 12, 13, 14, 15, 16, 17, 18, 19] (by decide +kernel) (by decide +kernel)
set_option maxRecDepth 20000 in
theorem gX0_restart_X0_clearLabels : GoodIn wsX0_restart (wsV RX0 32 RX0 yX0_clearLabels wsX0_clearLabels) := goodIn_app (goodIn_of _ (by decide +kernel)) ggX0_restart_X0_clearLabels
theorem dX0_restart_0 : decode cX0_restart 0 = .ok (.aload_n 0, 1) := by decide +kernel
theorem dX0_restart_1 : decode cX0_restart 1 = .ok (.iload_n 1, 1) := by decide +kernel
theorem dX0_restart_2 : decode cX0_restart 2 = .ok (.bipush 60, 2) := by decide +kernel
theorem dX0_restart_4 : decode cX0_restart 4 = .ok (.invokestatic 22, 3) := by decide +kernel
theorem dX0_restart_7 : decode cX0_restart 7 = .ok (.putfield 28, 3) := by decide +kernel
theorem dX0_restart_10 : decode cX0_restart 10 = .ok (.aload_n 0, 1) := by decide +kernel
theorem dX0_restart_11 : decode cX0_restart 11 = .ok (.invokevirtual 32, 3) := by decide +kernel
theorem dX0_restart_14 : decode cX0_restart 14 = .ok (.iconst 0, 1) := by decide +kernel
theorem dX0_restart_15 : decode cX0_restart 15 = .ok (.istore_n 2, 1) := by decide +kernel
theorem dX0_restart_16 : decode cX0_restart 16 = .ok (.iload_n 2, 1) := by decide +kernel
theorem dX0_restart_17 : decode cX0_restart 17 = .ok (.aload_n 0, 1) := by decide +kernel
theorem dX0_restart_18 : decode cX0_restart 18 = .ok (.getfield 28, 3) := by decide +kernel
theorem dX0_restart_21 : decode cX0_restart 21 = .ok (.if_icmp .ge 16, 3) := by decide +kernel
theorem dX0_restart_24 : decode cX0_restart 24 = .ok (.aload_n 0, 1) := by decide +kernel
theorem dX0_restart_25 : decode cX0_restart 25 = .ok (.getfield 15, 3) := by decide +kernel
theorem dX0_restart_28 : decode cX0_restart 28 = .ok (.iload_n 2, 1) := by decide +kernel
theorem dX0_restart_29 : decode cX0_restart 29 = .ok (.iload_n 2, 1) := by decide +kernel
theorem dX0_restart_30 : decode cX0_restart 30 = .ok (.iastore, 1) := by decide +kernel
theorem dX0_restart_31 : decode cX0_restart 31 = .ok (.iinc 2 1, 3) := by decide +kernel
theorem dX0_restart_34 : decode cX0_restart 34 = .ok (.goto (-18), 3) := by decide +kernel
theorem dX0_restart_37 : decode cX0_restart 37 = .ok (.return_, 1) := by decide +kernel
set_option maxRecDepth 20000 in
theorem ggX0_clearLabels_J7_fill_53178 : GoodIn wsX0_clearLabels wsJ7_fill_53178 := goodIn_r _ [5] (by decide +kernel) (by decide +kernel)
set_option maxRecDepth 20000 in
theorem gX0_clearLabels_J7_fill_53178 : GoodIn wsX0_clearLabels (va_wsS RX0 35 yJ7_fill_53178 wsJ7_fill_53178) := goodIn_app (goodIn_of _ (by decide +kernel)) ggX0_clearLabels_J7_fill_53178
theorem dX0_clearLabels_0 : decode cX0_clearLabels 0 = .ok (.aload_n 0, 1) := by decide +kernel
theorem dX0_clearLabels_1 : decode cX0_clearLabels 1 = .ok (.getfield 9, 3) := by decide +kernel
theorem dX0_clearLabels_4 : decode cX0_clearLabels 4 = .ok (.iconst 0, 1) := by decide +kernel
theorem dX0_clearLabels_5 : decode cX0_clearLabels 5 = .ok (.invokestatic 35, 3) := by decide +kernel
theorem dX0_clearLabels_8 : decode cX0_clearLabels 8 = .ok (.return_, 1) := by decide +kernel
theorem dX0_has_0 : decode cX0_has 0 = .ok (.iload_n 1, 1) := by decide +kernel
theorem dX0_has_1 : decode cX0_has 1 = .ok (.ifCond .lt 15, 3) := by decide +kernel
theorem dX0_has_4 : decode cX0_has 4 = .ok (.iload_n 1, 1) := by decide +kernel
theorem dX0_has_5 : decode cX0_has 5 = .ok (.aload_n 0, 1) := by decide +kernel
theorem dX0_has_6 : decode cX0_has 6 = .ok (.getfield 28, 3) := by decide +kernel
theorem dX0_has_9 : decode cX0_has 9 = .ok (.if_icmp .ge 7, 3) := by decide +kernel
theorem dX0_has_12 : decode cX0_has 12 = .ok (.iconst 1, 1) := by decide +kernel
theorem dX0_has_13 : decode cX0_has 13 = .ok (.goto 4, 3) := by decide +kernel
theorem dX0_has_16 : decode cX0_has 16 = .ok (.iconst 0, 1) := by decide +kernel
theorem dX0_has_17 : decode cX0_has 17 = .ok (.ireturn, 1) := by decide +kernel
theorem dX0_next_0 : decode cX0_next 0 = .ok (.iload_n 1, 1) := by decide +kernel
theorem dX0_next_1 : decode cX0_next 1 = .ok (.iconst 1, 1) := by decide +kernel
theorem dX0_next_2 : decode cX0_next 2 = .ok (.iadd, 1) := by decide +kernel
theorem dX0_next_3 : decode cX0_next 3 = .ok (.aload_n 0, 1) := by decide +kernel
theorem dX0_next_4 : decode cX0_next 4 = .ok (.getfield 28, 3) := by decide +kernel
theorem dX0_next_7 : decode cX0_next 7 = .ok (.if_icmp .ge 9, 3) := by decide +kernel
theorem dX0_next_10 : decode cX0_next 10 = .ok (.iload_n 1, 1) := by decide +kernel
theorem dX0_next_11 : decode cX0_next 11 = .ok (.iconst 1, 1) := by decide +kernel
theorem dX0_next_12 : decode cX0_next 12 = .ok (.iadd, 1) := by decide +kernel
theorem dX0_next_13 : decode cX0_next 13 = .ok (.goto 4, 3) := by decide +kernel
theorem dX0_next_16 : decode cX0_next 16 = .ok (.iconst 0, 1) := by decide +kernel
theorem dX0_next_17 : decode cX0_next 17 = .ok (.ireturn, 1) := by decide +kernel
theorem dX0_previous_0 : decode cX0_previous 0 = .ok (.iload_n 1, 1) := by decide +kernel
theorem dX0_previous_1 : decode cX0_previous 1 = .ok (.ifCond .le 9, 3) := by decide +kernel
theorem dX0_previous_4 : decode cX0_previous 4 = .ok (.iload_n 1, 1) := by decide +kernel
theorem dX0_previous_5 : decode cX0_previous 5 = .ok (.iconst 1, 1) := by decide +kernel
theorem dX0_previous_6 : decode cX0_previous 6 = .ok (.isub, 1) := by decide +kernel
theorem dX0_previous_7 : decode cX0_previous 7 = .ok (.goto 9, 3) := by decide +kernel
theorem dX0_previous_10 : decode cX0_previous 10 = .ok (.aload_n 0, 1) := by decide +kernel
theorem dX0_previous_11 : decode cX0_previous 11 = .ok (.getfield 28, 3) := by decide +kernel
theorem dX0_previous_14 : decode cX0_previous 14 = .ok (.iconst 1, 1) := by decide +kernel
theorem dX0_previous_15 : decode cX0_previous 15 = .ok (.isub, 1) := by decide +kernel
theorem dX0_previous_16 : decode cX0_previous 16 = .ok (.ireturn, 1) := by decide +kernel
set_option maxRecDepth 20000 in
theorem ggX0_isFault_X0_next : GoodIn wsX0_isFault wsX0_next := goodIn_r _ [6, 7, 22, 23, 24] (by decide +kernel) (by decide +kernel)
set_option maxRecDepth 20000 in
theorem gX0_isFault_X0_next : GoodIn wsX0_isFault (wsV RX0 41 RX0 yX0_next wsX0_next) := goodIn_app (goodIn_of _ (by decide +kernel)) ggX0_isFault_X0_next
set_option maxRecDepth 20000 in
theorem ggX0_isFault_X1_mayFollow : GoodIn wsX0_isFault wsX1_mayFollow := goodIn_r _ [12, 13, 14, 15, 16, 11, 17, 18, 19, 20, 21, 25, 26, 27, 28, 29, 30] (by decide +kernel) (by decide +kernel)
set_option maxRecDepth 20000 in
theorem gX0_isFault_X1_mayFollow : GoodIn wsX0_isFault (wsV RX0 45 RX1 yX1_mayFollow wsX1_mayFollow) := goodIn_app (goodIn_of _ (by decide +kernel)) ggX0_isFault_X1_mayFollow
theorem dX0_isFault_0 : decode cX0_isFault 0 = .ok (.aload_n 2, 1) := by decide +kernel
theorem dX0_isFault_1 : decode cX0_isFault 1 = .ok (.aload_n 0, 1) := by decide +kernel
theorem dX0_isFault_2 : decode cX0_isFault 2 = .ok (.getfield 9, 3) := by decide +kernel
theorem dX0_isFault_5 : decode cX0_isFault 5 = .ok (.iload_n 1, 1) := by decide +kernel
theorem dX0_isFault_6 : decode cX0_isFault 6 = .ok (.iaload, 1) := by decide +kernel
theorem dX0_isFault_7 : decode cX0_isFault 7 = .ok (.aload_n 0, 1) := by decide +kernel
theorem dX0_isFault_8 : decode cX0_isFault 8 = .ok (.getfield 9, 3) := by decide +kernel
theorem dX0_isFault_11 : decode cX0_isFault 11 = .ok (.aload_n 0, 1) := by decide +kernel
theorem dX0_isFault_12 : decode cX0_isFault 12 = .ok (.iload_n 1, 1) := by decide +kernel
theorem dX0_isFault_13 : decode cX0_isFault 13 = .ok (.invokevirtual 41, 3) := by decide +kernel
theorem dX0_isFault_16 : decode cX0_isFault 16 = .ok (.iaload, 1) := by decide +kernel
theorem dX0_isFault_17 : decode cX0_isFault 17 = .ok (.invokevirtual 45, 3) := by decide +kernel
theorem dX0_isFault_20 : decode cX0_isFault 20 = .ok (.ifCond .ne 7, 3) := by decide +kernel
theorem dX0_isFault_23 : decode cX0_isFault 23 = .ok (.iconst 1, 1) := by decide +kernel
theorem dX0_isFault_24 : decode cX0_isFault 24 = .ok (.goto 4, 3) := by decide +kernel
theorem dX0_isFault_27 : decode cX0_isFault 27 = .ok (.iconst 0, 1) := by decide +kernel
theorem dX0_isFault_28 : decode cX0_isFault 28 = .ok (.ireturn, 1) := by decide +kernel
set_option maxRecDepth 20000 in
theorem ggX0_faultFrom_X0_isFault : GoodIn wsX0_faultFrom wsX0_isFault := goodIn_r _ [6, 7, 8, 9, 10, 5, 11, 1, 12, 13, 14, 15, 16, 17, 18, 19, 20, 21, 22, 23, 24, 25, 26, 27, 28, 29, 30, 31, 32, 33, 34] (by decide +kernel) (by decide +kernel)
set_option maxRecDepth 20000 in
theorem gX0_faultFrom_X0_isFault : GoodIn wsX0_faultFrom (wsV RX0 51 RX0 yX0_isFault wsX0_isFault) := goodIn_app (goodIn_of _ (by decide +kernel)) ggX0_faultFrom_X0_isFault
set_option maxRecDepth 20000 in
theorem ggX0_faultFrom_X0_next : GoodIn wsX0_faultFrom wsX0_next := goodIn_r _ [11, 1, 26, 27, 28] (by decide +kernel) (by decide +kernel)
set_option maxRecDepth 20000 in
theorem gX0_faultFrom_X0_next : GoodIn wsX0_faultFrom (wsV RX0 41 RX0 yX0_next wsX0_next) := goodIn_app (goodIn_of _ (by decide +kernel)) ggX0_faultFrom_X0_next
theorem dX0_faultFrom_0 : decode cX0_faultFrom 0 = .ok (.iload_n 1, 1) := by decide +kernel
theorem dX0_faultFrom_1 : decode cX0_faultFrom 1 = .ok (.istore_n 3, 1) := by decide +kernel
theorem dX0_faultFrom_2 : decode cX0_faultFrom 2 = .ok (.iconst 0, 1) := by decide +kernel
theorem dX0_faultFrom_3 : decode cX0_faultFrom 3 = .ok (.istore 4, 2) := by decide +kernel
theorem dX0_faultFrom_5 : decode cX0_faultFrom 5 = .ok (.iload 4, 2) := by decide +kernel
theorem dX0_faultFrom_7 : decode cX0_faultFrom 7 = .ok (.aload_n 0, 1) := by decide +kernel
theorem dX0_faultFrom_8 : decode cX0_faultFrom 8 = .ok (.getfield 28, 3) := by decide +kernel
theorem dX0_faultFrom_11 : decode cX0_faultFrom 11 = .ok (.if_icmp .ge 26, 3) := by decide +kernel
theorem dX0_faultFrom_14 : decode cX0_faultFrom 14 = .ok (.aload_n 0, 1) := by decide +kernel
theorem dX0_faultFrom_15 : decode cX0_faultFrom 15 = .ok (.iload_n 3, 1) := by decide +kernel
theorem dX0_faultFrom_16 : decode cX0_faultFrom 16 = .ok (.aload_n 2, 1) := by decide +kernel
theorem dX0_faultFrom_17 : decode cX0_faultFrom 17 = .ok (.invokevirtual 51, 3) := by decide +kernel
theorem dX0_faultFrom_20 : decode cX0_faultFrom 20 = .ok (.ifCond .eq 5, 3) := by decide +kernel
theorem dX0_faultFrom_23 : decode cX0_faultFrom 23 = .ok (.iload_n 3, 1) := by decide +kernel
theorem dX0_faultFrom_24 : decode cX0_faultFrom 24 = .ok (.ireturn, 1) := by decide +kernel
theorem dX0_faultFrom_25 : decode cX0_faultFrom 25 = .ok (.aload_n 0, 1) := by decide +kernel
theorem dX0_faultFrom_26 : decode cX0_faultFrom 26 = .ok (.iload_n 3, 1) := by decide +kernel
theorem dX0_faultFrom_27 : decode cX0_faultFrom 27 = .ok (.invokevirtual 41, 3) := by decide +kernel
theorem dX0_faultFrom_30 : decode cX0_faultFrom 30 = .ok (.istore_n 3, 1) := by decide +kernel
theorem dX0_faultFrom_31 : decode cX0_faultFrom 31 = .ok (.iinc 4 1, 3) := by decide +kernel
theorem dX0_faultFrom_34 : decode cX0_faultFrom 34 = .ok (.goto (-29), 3) := by decide +kernel
theorem dX0_faultFrom_37 : decode cX0_faultFrom 37 = .ok (.bipush (-9), 2) := by decide +kernel
theorem dX0_faultFrom_39 : decode cX0_faultFrom 39 = .ok (.ireturn, 1) := by decide +kernel
set_option maxRecDepth 20000 in
theorem ggX0_mendAround_X0_mendStretch : GoodIn wsX0_mendAround wsX0_mendStretch := goodIn_r _ [6, 1, 7, 8, 9, 10, 11, 12, 13, 14, 15, 16, 17, 18, 19, 20, 21, 22, 23, 24, 25, 26, 27, 28, 29, 30, 31, 32, 33, 34, 35, 36, 37, 5, 38, 39, 40, 41, 42, 43, 44, 45, 46, 47, 48, 49, 50, 51, 52, 53, 54, 55, 56, 57] (by decide +kernel) (by decide +kernel)
set_option maxRecDepth 20000 in
theorem gX0_mendAround_X0_mendStretch : GoodIn wsX0_mendAround (wsV RX0 55 RX0 yX0_mendStretch wsX0_mendStretch) := goodIn_app (goodIn_of _ (by decide +kernel)) ggX0_mendAround_X0_mendStretch
set_option maxRecDepth 20000 in
theorem ggX0_mendAround_X0_previous : GoodIn wsX0_mendAround wsX0_previous := goodIn_r _ [38, 1, 49, 50, 51] (by decide +kernel) (by decide +kernel)
set_option maxRecDepth 20000 in
theorem gX0_mendAround_X0_previous : GoodIn wsX0_mendAround (wsV RX0 59 RX0 yX0_previous wsX0_previous) := goodIn_app (goodIn_of _ (by decide +kernel)) ggX0_mendAround_X0_previous
set_option maxRecDepth 20000 in
theorem ggX0_mendAround_X0_next : GoodIn wsX0_mendAround wsX0_next := goodIn_r _ [42, 1, 49, 50, 51] (by decide +kernel) (by decide +kernel)
set_option maxRecDepth 20000 in
theorem gX0_mendAround_X0_next : GoodIn wsX0_mendAround (wsV RX0 41 RX0 yX0_next wsX0_next) := goodIn_app (goodIn_of _ (by decide +kernel)) ggX0_mendAround_X0_next
theorem dX0_mendAround_0 : decode cX0_mendAround 0 = .ok (.iload_n 1, 1) := by decide +kernel
theorem dX0_mendAround_1 : decode cX0_mendAround 1 = .ok (.istore_n 3, 1) := by decide +kernel
theorem dX0_mendAround_2 : decode cX0_mendAround 2 = .ok (.iload_n 1, 1) := by decide +kernel
theorem dX0_mendAround_3 : decode cX0_mendAround 3 = .ok (.istore 4, 2) := by decide +kernel
theorem dX0_mendAround_5 : decode cX0_mendAround 5 = .ok (.iconst 0, 1) := by decide +kernel
theorem dX0_mendAround_6 : decode cX0_mendAround 6 = .ok (.istore 5, 2) := by decide +kernel
theorem dX0_mendAround_8 : decode cX0_mendAround 8 = .ok (.iconst 2, 1) := by decide +kernel
theorem dX0_mendAround_9 : decode cX0_mendAround 9 = .ok (.iload 5, 2) := by decide +kernel
theorem dX0_mendAround_11 : decode cX0_mendAround 11 = .ok (.imul, 1) := by decide +kernel
theorem dX0_mendAround_12 : decode cX0_mendAround 12 = .ok (.iconst 1, 1) := by decide +kernel
theorem dX0_mendAround_13 : decode cX0_mendAround 13 = .ok (.iadd, 1) := by decide +kernel
theorem dX0_mendAround_14 : decode cX0_mendAround 14 = .ok (.aload_n 0, 1) := by decide +kernel
theorem dX0_mendAround_15 : decode cX0_mendAround 15 = .ok (.getfield 28, 3) := by decide +kernel
theorem dX0_mendAround_18 : decode cX0_mendAround 18 = .ok (.if_icmp .gt 43, 3) := by decide +kernel
theorem dX0_mendAround_21 : decode cX0_mendAround 21 = .ok (.aload_n 0, 1) := by decide +kernel
theorem dX0_mendAround_22 : decode cX0_mendAround 22 = .ok (.iload_n 3, 1) := by decide +kernel
theorem dX0_mendAround_23 : decode cX0_mendAround 23 = .ok (.iload 4, 2) := by decide +kernel
theorem dX0_mendAround_25 : decode cX0_mendAround 25 = .ok (.iconst 2, 1) := by decide +kernel
theorem dX0_mendAround_26 : decode cX0_mendAround 26 = .ok (.iload 5, 2) := by decide +kernel
theorem dX0_mendAround_28 : decode cX0_mendAround 28 = .ok (.imul, 1) := by decide +kernel
theorem dX0_mendAround_29 : decode cX0_mendAround 29 = .ok (.iconst 1, 1) := by decide +kernel
theorem dX0_mendAround_30 : decode cX0_mendAround 30 = .ok (.iadd, 1) := by decide +kernel
theorem dX0_mendAround_31 : decode cX0_mendAround 31 = .ok (.aload_n 2, 1) := by decide +kernel
theorem dX0_mendAround_32 : decode cX0_mendAround 32 = .ok (.invokevirtual 55, 3) := by decide +kernel
theorem dX0_mendAround_35 : decode cX0_mendAround 35 = .ok (.ifCond .eq 6, 3) := by decide +kernel
theorem dX0_mendAround_38 : decode cX0_mendAround 38 = .ok (.iload 5, 2) := by decide +kernel
theorem dX0_mendAround_40 : decode cX0_mendAround 40 = .ok (.ireturn, 1) := by decide +kernel
theorem dX0_mendAround_41 : decode cX0_mendAround 41 = .ok (.aload_n 0, 1) := by decide +kernel
theorem dX0_mendAround_42 : decode cX0_mendAround 42 = .ok (.iload_n 3, 1) := by decide +kernel
theorem dX0_mendAround_43 : decode cX0_mendAround 43 = .ok (.invokevirtual 59, 3) := by decide +kernel
theorem dX0_mendAround_46 : decode cX0_mendAround 46 = .ok (.istore_n 3, 1) := by decide +kernel
theorem dX0_mendAround_47 : decode cX0_mendAround 47 = .ok (.aload_n 0, 1) := by decide +kernel
theorem dX0_mendAround_48 : decode cX0_mendAround 48 = .ok (.iload 4, 2) := by decide +kernel
theorem dX0_mendAround_50 : decode cX0_mendAround 50 = .ok (.invokevirtual 41, 3) := by decide +kernel
theorem dX0_mendAround_53 : decode cX0_mendAround 53 = .ok (.istore 4, 2) := by decide +kernel
theorem dX0_mendAround_55 : decode cX0_mendAround 55 = .ok (.iinc 5 1, 3) := by decide +kernel
theorem dX0_mendAround_58 : decode cX0_mendAround 58 = .ok (.goto (-50), 3) := by decide +kernel
theorem dX0_mendAround_61 : decode cX0_mendAround 61 = .ok (.bipush (-9), 2) := by decide +kernel
theorem dX0_mendAround_63 : decode cX0_mendAround 63 = .ok (.ireturn, 1) := by decide +kernel
set_option maxRecDepth 20000 in
theorem ggX0_mendStretch_X1_findRing : GoodIn wsX0_mendStretch wsX1_findRing := goodIn_r _ [7, 8, 9, 10, 11, 6, 12, 13, 14, 15, 16, 17, 18, 19, 20, 21, 22, 23, 24, 25, 26, 27, 28, 29, 48, 49, 50, 51, 52, 53] (by decide +kernel) (by decide +kernel)
set_option maxRecDepth 20000 in
theorem gX0_mendStretch_X1_findRing : GoodIn wsX0_mendStretch (wsV RX0 62 RX1 yX1_findRing wsX1_findRing) := goodIn_app (goodIn_of _ (by decide +kernel)) ggX0_mendStretch_X1_findRing
set_option maxRecDepth 20000 in
theorem ggX0_mendStretch_X0_previous : GoodIn wsX0_mendStretch wsX0_previous := goodIn_r _ [34, 1, 45, 46, 47] (by decide +kernel) (by decide +kernel)
set_option maxRecDepth 20000 in
theorem gX0_mendStretch_X0_previous : GoodIn wsX0_mendStretch (wsV RX0 59 RX0 yX0_previous wsX0_previous) := goodIn_app (goodIn_of _ (by decide +kernel)) ggX0_mendStretch_X0_previous
set_option maxRecDepth 20000 in
theorem ggX0_mendStretch_X0_next : GoodIn wsX0_mendStretch wsX0_next := goodIn_r _ [38, 1, 45, 46, 47] (by decide +kernel) (by decide +kernel)
set_option maxRecDepth 20000 in
theorem gX0_mendStretch_X0_next : GoodIn wsX0_mendStretch (wsV RX0 41 RX0 yX0_next wsX0_next) := goodIn_app (goodIn_of _ (by decide +kernel)) ggX0_mendStretch_X0_next
set_option maxRecDepth 20000 in
theorem ggX0_mendStretch_X1_findWalk : GoodIn wsX0_mendStretch wsX1_findWalk := goodIn_r _ [12, 13, 14, 15, 16, 17, 18, 6, 19, 8, 20, 21, 22, 23, 24, 25, 26, 27, 28, 29, 48, 49, 50, 51, 52, 53] (by decide +kernel) (by decide +kernel)
set_option maxRecDepth 20000 in
theorem gX0_mendStretch_X1_findWalk : GoodIn wsX0_mendStretch (wsV RX0 66 RX1 yX1_findWalk wsX1_findWalk) := goodIn_app (goodIn_of _ (by decide +kernel)) ggX0_mendStretch_X1_findWalk
set_option maxRecDepth 20000 in
theorem ggX0_mendStretch_X0_putWalk : GoodIn wsX0_mendStretch wsX0_putWalk := goodIn_r _ [43, 44, 2, 35, 36, 37, 33, 38, 1, 48, 49, 50, 51, 52, 53, 45, 46, 47] (by decide +kernel) (by decide +kernel)
set_option maxRecDepth 20000 in
theorem gX0_mendStretch_X0_putWalk : GoodIn wsX0_mendStretch (wsV RX0 70 RX0 yX0_putWalk wsX0_putWalk) := goodIn_app (goodIn_of _ (by decide +kernel)) ggX0_mendStretch_X0_putWalk
theorem dX0_mendStretch_0 : decode cX0_mendStretch 0 = .ok (.iload_n 3, 1) := by decide +kernel
theorem dX0_mendStretch_1 : decode cX0_mendStretch 1 = .ok (.aload_n 0, 1) := by decide +kernel
theorem dX0_mendStretch_2 : decode cX0_mendStretch 2 = .ok (.getfield 28, 3) := by decide +kernel
theorem dX0_mendStretch_5 : decode cX0_mendStretch 5 = .ok (.if_icmp .ne 7, 3) := by decide +kernel
theorem dX0_mendStretch_8 : decode cX0_mendStretch 8 = .ok (.iconst 1, 1) := by decide +kernel
theorem dX0_mendStretch_9 : decode cX0_mendStretch 9 = .ok (.goto 4, 3) := by decide +kernel
theorem dX0_mendStretch_12 : decode cX0_mendStretch 12 = .ok (.iconst 0, 1) := by decide +kernel
theorem dX0_mendStretch_13 : decode cX0_mendStretch 13 = .ok (.istore 5, 2) := by decide +kernel
theorem dX0_mendStretch_15 : decode cX0_mendStretch 15 = .ok (.iload 5, 2) := by decide +kernel
theorem dX0_mendStretch_17 : decode cX0_mendStretch 17 = .ok (.ifCond .eq 12, 3) := by decide +kernel
theorem dX0_mendStretch_20 : decode cX0_mendStretch 20 = .ok (.aload 4, 2) := by decide +kernel
theorem dX0_mendStretch_22 : decode cX0_mendStretch 22 = .ok (.iload_n 3, 1) := by decide +kernel
theorem dX0_mendStretch_23 : decode cX0_mendStretch 23 = .ok (.invokevirtual 62, 3) := by decide +kernel
theorem dX0_mendStretch_26 : decode cX0_mendStretch 26 = .ok (.goto 31, 3) := by decide +kernel
theorem dX0_mendStretch_29 : decode cX0_mendStretch 29 = .ok (.aload 4, 2) := by decide +kernel
theorem dX0_mendStretch_31 : decode cX0_mendStretch 31 = .ok (.aload_n 0, 1) := by decide +kernel
theorem dX0_mendStretch_32 : decode cX0_mendStretch 32 = .ok (.getfield 9, 3) := by decide +kernel
theorem dX0_mendStretch_35 : decode cX0_mendStretch 35 = .ok (.aload_n 0, 1) := by decide +kernel
theorem dX0_mendStretch_36 : decode cX0_mendStretch 36 = .ok (.iload_n 1, 1) := by decide +kernel
theorem dX0_mendStretch_37 : decode cX0_mendStretch 37 = .ok (.invokevirtual 59, 3) := by decide +kernel
theorem dX0_mendStretch_40 : decode cX0_mendStretch 40 = .ok (.iaload, 1) := by decide +kernel
theorem dX0_mendStretch_41 : decode cX0_mendStretch 41 = .ok (.aload_n 0, 1) := by decide +kernel
theorem dX0_mendStretch_42 : decode cX0_mendStretch 42 = .ok (.getfield 9, 3) := by decide +kernel
theorem dX0_mendStretch_45 : decode cX0_mendStretch 45 = .ok (.aload_n 0, 1) := by decide +kernel
theorem dX0_mendStretch_46 : decode cX0_mendStretch 46 = .ok (.iload_n 2, 1) := by decide +kernel
theorem dX0_mendStretch_47 : decode cX0_mendStretch 47 = .ok (.invokevirtual 41, 3) := by decide +kernel
theorem dX0_mendStretch_50 : decode cX0_mendStretch 50 = .ok (.iaload, 1) := by decide +kernel
theorem dX0_mendStretch_51 : decode cX0_mendStretch 51 = .ok (.iload_n 3, 1) := by decide +kernel
theorem dX0_mendStretch_52 : decode cX0_mendStretch 52 = .ok (.iconst 1, 1) := by decide +kernel
theorem dX0_mendStretch_53 : decode cX0_mendStretch 53 = .ok (.iadd, 1) := by decide +kernel
theorem dX0_mendStretch_54 : decode cX0_mendStretch 54 = .ok (.invokevirtual 66, 3) := by decide +kernel
theorem dX0_mendStretch_57 : decode cX0_mendStretch 57 = .ok (.istore 6, 2) := by decide +kernel
theorem dX0_mendStretch_59 : decode cX0_mendStretch 59 = .ok (.iload 6, 2) := by decide +kernel
theorem dX0_mendStretch_61 : decode cX0_mendStretch 61 = .ok (.ifCond .eq 21, 3) := by decide +kernel
theorem dX0_mendStretch_64 : decode cX0_mendStretch 64 = .ok (.aload_n 0, 1) := by decide +kernel
theorem dX0_mendStretch_65 : decode cX0_mendStretch 65 = .ok (.iload_n 1, 1) := by decide +kernel
theorem dX0_mendStretch_66 : decode cX0_mendStretch 66 = .ok (.iload_n 3, 1) := by decide +kernel
theorem dX0_mendStretch_67 : decode cX0_mendStretch 67 = .ok (.aload 4, 2) := by decide +kernel
theorem dX0_mendStretch_69 : decode cX0_mendStretch 69 = .ok (.iload 5, 2) := by decide +kernel
theorem dX0_mendStretch_71 : decode cX0_mendStretch 71 = .ok (.ifCond .eq 7, 3) := by decide +kernel
theorem dX0_mendStretch_74 : decode cX0_mendStretch 74 = .ok (.iconst 0, 1) := by decide +kernel
theorem dX0_mendStretch_75 : decode cX0_mendStretch 75 = .ok (.goto 4, 3) := by decide +kernel
theorem dX0_mendStretch_78 : decode cX0_mendStretch 78 = .ok (.iconst 1, 1) := by decide +kernel
theorem dX0_mendStretch_79 : decode cX0_mendStretch 79 = .ok (.invokevirtual 70, 3) := by decide +kernel
theorem dX0_mendStretch_82 : decode cX0_mendStretch 82 = .ok (.iload 6, 2) := by decide +kernel
theorem dX0_mendStretch_84 : decode cX0_mendStretch 84 = .ok (.ireturn, 1) := by decide +kernel
set_option maxRecDepth 20000 in
theorem ggX0_putWalk_X0_next : GoodIn wsX0_putWalk wsX0_next := goodIn_r _ [7, 8, 15, 16, 17] (by decide +kernel) (by decide +kernel)
set_option maxRecDepth 20000 in
theorem gX0_putWalk_X0_next : GoodIn wsX0_putWalk (wsV RX0 41 RX0 yX0_next wsX0_next) := goodIn_app (goodIn_of _ (by decide +kernel)) ggX0_putWalk_X0_next
theorem dX0_putWalk_0 : decode cX0_putWalk 0 = .ok (.iload_n 1, 1) := by decide +kernel
theorem dX0_putWalk_1 : decode cX0_putWalk 1 = .ok (.istore 5, 2) := by decide +kernel
theorem dX0_putWalk_3 : decode cX0_putWalk 3 = .ok (.iload 4, 2) := by decide +kernel
theorem dX0_putWalk_5 : decode cX0_putWalk 5 = .ok (.istore 6, 2) := by decide +kernel
theorem dX0_putWalk_7 : decode cX0_putWalk 7 = .ok (.iload 6, 2) := by decide +kernel
theorem dX0_putWalk_9 : decode cX0_putWalk 9 = .ok (.iload 4, 2) := by decide +kernel
theorem dX0_putWalk_11 : decode cX0_putWalk 11 = .ok (.iload_n 2, 1) := by decide +kernel
theorem dX0_putWalk_12 : decode cX0_putWalk 12 = .ok (.iadd, 1) := by decide +kernel
theorem dX0_putWalk_13 : decode cX0_putWalk 13 = .ok (.if_icmp .ge 41, 3) := by decide +kernel
theorem dX0_putWalk_16 : decode cX0_putWalk 16 = .ok (.iload 6, 2) := by decide +kernel
theorem dX0_putWalk_18 : decode cX0_putWalk 18 = .ok (.aload_n 3, 1) := by decide +kernel
theorem dX0_putWalk_19 : decode cX0_putWalk 19 = .ok (.getfield 74, 3) := by decide +kernel
theorem dX0_putWalk_22 : decode cX0_putWalk 22 = .ok (.arraylength, 1) := by decide +kernel
theorem dX0_putWalk_23 : decode cX0_putWalk 23 = .ok (.if_icmp .ge 31, 3) := by decide +kernel
theorem dX0_putWalk_26 : decode cX0_putWalk 26 = .ok (.aload_n 0, 1) := by decide +kernel
theorem dX0_putWalk_27 : decode cX0_putWalk 27 = .ok (.getfield 9, 3) := by decide +kernel
theorem dX0_putWalk_30 : decode cX0_putWalk 30 = .ok (.iload 5, 2) := by decide +kernel
theorem dX0_putWalk_32 : decode cX0_putWalk 32 = .ok (.aload_n 3, 1) := by decide +kernel
theorem dX0_putWalk_33 : decode cX0_putWalk 33 = .ok (.getfield 74, 3) := by decide +kernel
theorem dX0_putWalk_36 : decode cX0_putWalk 36 = .ok (.iload 6, 2) := by decide +kernel
theorem dX0_putWalk_38 : decode cX0_putWalk 38 = .ok (.iaload, 1) := by decide +kernel
theorem dX0_putWalk_39 : decode cX0_putWalk 39 = .ok (.iastore, 1) := by decide +kernel
theorem dX0_putWalk_40 : decode cX0_putWalk 40 = .ok (.aload_n 0, 1) := by decide +kernel
theorem dX0_putWalk_41 : decode cX0_putWalk 41 = .ok (.iload 5, 2) := by decide +kernel
theorem dX0_putWalk_43 : decode cX0_putWalk 43 = .ok (.invokevirtual 41, 3) := by decide +kernel
theorem dX0_putWalk_46 : decode cX0_putWalk 46 = .ok (.istore 5, 2) := by decide +kernel
theorem dX0_putWalk_48 : decode cX0_putWalk 48 = .ok (.iinc 6 1, 3) := by decide +kernel
theorem dX0_putWalk_51 : decode cX0_putWalk 51 = .ok (.goto (-44), 3) := by decide +kernel
theorem dX0_putWalk_54 : decode cX0_putWalk 54 = .ok (.return_, 1) := by decide +kernel
set_option maxRecDepth 20000 in
theorem ggX0_likeNeighbours_X0_next : GoodIn wsX0_likeNeighbours wsX0_next := goodIn_r _ [7, 1, 8, 9, 10] (by decide +kernel) (by decide +kernel)
set_option maxRecDepth 20000 in
theorem gX0_likeNeighbours_X0_next : GoodIn wsX0_likeNeighbours (wsV RX0 41 RX0 yX0_next wsX0_next) := goodIn_app (goodIn_of _ (by decide +kernel)) ggX0_likeNeighbours_X0_next
theorem dX0_likeNeighbours_0 : decode cX0_likeNeighbours 0 = .ok (.iconst 0, 1) := by decide +kernel
theorem dX0_likeNeighbours_1 : decode cX0_likeNeighbours 1 = .ok (.istore_n 1, 1) := by decide +kernel
theorem dX0_likeNeighbours_2 : decode cX0_likeNeighbours 2 = .ok (.iconst 0, 1) := by decide +kernel
theorem dX0_likeNeighbours_3 : decode cX0_likeNeighbours 3 = .ok (.istore_n 2, 1) := by decide +kernel
theorem dX0_likeNeighbours_4 : decode cX0_likeNeighbours 4 = .ok (.iload_n 2, 1) := by decide +kernel
theorem dX0_likeNeighbours_5 : decode cX0_likeNeighbours 5 = .ok (.aload_n 0, 1) := by decide +kernel
theorem dX0_likeNeighbours_6 : decode cX0_likeNeighbours 6 = .ok (.getfield 28, 3) := by decide +kernel
theorem dX0_likeNeighbours_9 : decode cX0_likeNeighbours 9 = .ok (.if_icmp .ge 31, 3) := by decide +kernel
theorem dX0_likeNeighbours_12 : decode cX0_likeNeighbours 12 = .ok (.aload_n 0, 1) := by decide +kernel
theorem dX0_likeNeighbours_13 : decode cX0_likeNeighbours 13 = .ok (.getfield 15, 3) := by decide +kernel
theorem dX0_likeNeighbours_16 : decode cX0_likeNeighbours 16 = .ok (.iload_n 2, 1) := by decide +kernel
theorem dX0_likeNeighbours_17 : decode cX0_likeNeighbours 17 = .ok (.iaload, 1) := by decide +kernel
theorem dX0_likeNeighbours_18 : decode cX0_likeNeighbours 18 = .ok (.aload_n 0, 1) := by decide +kernel
theorem dX0_likeNeighbours_19 : decode cX0_likeNeighbours 19 = .ok (.getfield 15, 3) := by decide +kernel
theorem dX0_likeNeighbours_22 : decode cX0_likeNeighbours 22 = .ok (.aload_n 0, 1) := by decide +kernel
theorem dX0_likeNeighbours_23 : decode cX0_likeNeighbours 23 = .ok (.iload_n 2, 1) := by decide +kernel
theorem dX0_likeNeighbours_24 : decode cX0_likeNeighbours 24 = .ok (.invokevirtual 41, 3) := by decide +kernel
theorem dX0_likeNeighbours_27 : decode cX0_likeNeighbours 27 = .ok (.iaload, 1) := by decide +kernel
theorem dX0_likeNeighbours_28 : decode cX0_likeNeighbours 28 = .ok (.if_icmp .ne 6, 3) := by decide +kernel
theorem dX0_likeNeighbours_31 : decode cX0_likeNeighbours 31 = .ok (.iinc 1 1, 3) := by decide +kernel
theorem dX0_likeNeighbours_34 : decode cX0_likeNeighbours 34 = .ok (.iinc 2 1, 3) := by decide +kernel
theorem dX0_likeNeighbours_37 : decode cX0_likeNeighbours 37 = .ok (.goto (-33), 3) := by decide +kernel
theorem dX0_likeNeighbours_40 : decode cX0_likeNeighbours 40 = .ok (.iload_n 1, 1) := by decide +kernel
theorem dX0_likeNeighbours_41 : decode cX0_likeNeighbours 41 = .ok (.ireturn, 1) := by decide +kernel
theorem dX0_greatestNumber_0 : decode cX0_greatestNumber 0 = .ok (.iconst 0, 1) := by decide +kernel
theorem dX0_greatestNumber_1 : decode cX0_greatestNumber 1 = .ok (.istore_n 1, 1) := by decide +kernel
theorem dX0_greatestNumber_2 : decode cX0_greatestNumber 2 = .ok (.iconst 0, 1) := by decide +kernel
theorem dX0_greatestNumber_3 : decode cX0_greatestNumber 3 = .ok (.istore_n 2, 1) := by decide +kernel
theorem dX0_greatestNumber_4 : decode cX0_greatestNumber 4 = .ok (.iload_n 2, 1) := by decide +kernel
theorem dX0_greatestNumber_5 : decode cX0_greatestNumber 5 = .ok (.aload_n 0, 1) := by decide +kernel
theorem dX0_greatestNumber_6 : decode cX0_greatestNumber 6 = .ok (.getfield 28, 3) := by decide +kernel
theorem dX0_greatestNumber_9 : decode cX0_greatestNumber 9 = .ok (.if_icmp .ge 20, 3) := by decide +kernel
theorem dX0_greatestNumber_12 : decode cX0_greatestNumber 12 = .ok (.iload_n 1, 1) := by decide +kernel
theorem dX0_greatestNumber_13 : decode cX0_greatestNumber 13 = .ok (.aload_n 0, 1) := by decide +kernel
theorem dX0_greatestNumber_14 : decode cX0_greatestNumber 14 = .ok (.getfield 15, 3) := by decide +kernel
theorem dX0_greatestNumber_17 : decode cX0_greatestNumber 17 = .ok (.iload_n 2, 1) := by decide +kernel
theorem dX0_greatestNumber_18 : decode cX0_greatestNumber 18 = .ok (.iaload, 1) := by decide +kernel
theorem dX0_greatestNumber_19 : decode cX0_greatestNumber 19 = .ok (.invokestatic 77, 3) := by decide +kernel
theorem dX0_greatestNumber_22 : decode cX0_greatestNumber 22 = .ok (.istore_n 1, 1) := by decide +kernel
theorem dX0_greatestNumber_23 : decode cX0_greatestNumber 23 = .ok (.iinc 2 1, 3) := by decide +kernel
theorem dX0_greatestNumber_26 : decode cX0_greatestNumber 26 = .ok (.goto (-22), 3) := by decide +kernel
theorem dX0_greatestNumber_29 : decode cX0_greatestNumber 29 = .ok (.iload_n 1, 1) := by decide +kernel
theorem dX0_greatestNumber_30 : decode cX0_greatestNumber 30 = .ok (.ireturn, 1) := by decide +kernel
set_option maxRecDepth 20000 in
theorem ggX0_doRound_X0_shortened : GoodIn wsX0_doRound wsX0_shortened := goodIn_r _ [6, 7, 8, 9, 10, 11, 12, 13] (by decide +kernel) (by decide +kernel)
set_option maxRecDepth 20000 in
theorem gX0_doRound_X0_shortened : GoodIn wsX0_doRound (va_wsS RX0 80 yX0_shortened wsX0_shortened) := goodIn_app (goodIn_of _ (by decide +kernel)) ggX0_doRound_X0_shortened
theorem dX0_doRound_0 : decode cX0_doRound 0 = .ok (.aload_n 0, 1) := by decide +kernel
theorem dX0_doRound_1 : decode cX0_doRound 1 = .ok (.getfield 15, 3) := by decide +kernel
theorem dX0_doRound_4 : decode cX0_doRound 4 = .ok (.iconst 0, 1) := by decide +kernel
theorem dX0_doRound_5 : decode cX0_doRound 5 = .ok (.iaload, 1) := by decide +kernel
theorem dX0_doRound_6 : decode cX0_doRound 6 = .ok (.istore_n 1, 1) := by decide +kernel
theorem dX0_doRound_7 : decode cX0_doRound 7 = .ok (.iconst 0, 1) := by decide +kernel
theorem dX0_doRound_8 : decode cX0_doRound 8 = .ok (.istore_n 2, 1) := by decide +kernel
theorem dX0_doRound_9 : decode cX0_doRound 9 = .ok (.iload_n 2, 1) := by decide +kernel
theorem dX0_doRound_10 : decode cX0_doRound 10 = .ok (.aload_n 0, 1) := by decide +kernel
theorem dX0_doRound_11 : decode cX0_doRound 11 = .ok (.getfield 28, 3) := by decide +kernel
theorem dX0_doRound_14 : decode cX0_doRound 14 = .ok (.if_icmp .ge 48, 3) := by decide +kernel
theorem dX0_doRound_17 : decode cX0_doRound 17 = .ok (.iload_n 2, 1) := by decide +kernel
theorem dX0_doRound_18 : decode cX0_doRound 18 = .ok (.iconst 1, 1) := by decide +kernel
theorem dX0_doRound_19 : decode cX0_doRound 19 = .ok (.iadd, 1) := by decide +kernel
theorem dX0_doRound_20 : decode cX0_doRound 20 = .ok (.aload_n 0, 1) := by decide +kernel
theorem dX0_doRound_21 : decode cX0_doRound 21 = .ok (.getfield 28, 3) := by decide +kernel
theorem dX0_doRound_24 : decode cX0_doRound 24 = .ok (.if_icmp .ge 14, 3) := by decide +kernel
theorem dX0_doRound_27 : decode cX0_doRound 27 = .ok (.aload_n 0, 1) := by decide +kernel
theorem dX0_doRound_28 : decode cX0_doRound 28 = .ok (.getfield 15, 3) := by decide +kernel
theorem dX0_doRound_31 : decode cX0_doRound 31 = .ok (.iload_n 2, 1) := by decide +kernel
theorem dX0_doRound_32 : decode cX0_doRound 32 = .ok (.iconst 1, 1) := by decide +kernel
theorem dX0_doRound_33 : decode cX0_doRound 33 = .ok (.iadd, 1) := by decide +kernel
theorem dX0_doRound_34 : decode cX0_doRound 34 = .ok (.iaload, 1) := by decide +kernel
theorem dX0_doRound_35 : decode cX0_doRound 35 = .ok (.goto 4, 3) := by decide +kernel
theorem dX0_doRound_38 : decode cX0_doRound 38 = .ok (.iload_n 1, 1) := by decide +kernel
theorem dX0_doRound_39 : decode cX0_doRound 39 = .ok (.istore_n 3, 1) := by decide +kernel
theorem dX0_doRound_40 : decode cX0_doRound 40 = .ok (.aload_n 0, 1) := by decide +kernel
theorem dX0_doRound_41 : decode cX0_doRound 41 = .ok (.getfield 15, 3) := by decide +kernel
theorem dX0_doRound_44 : decode cX0_doRound 44 = .ok (.iload_n 2, 1) := by decide +kernel
theorem dX0_doRound_45 : decode cX0_doRound 45 = .ok (.aload_n 0, 1) := by decide +kernel
theorem dX0_doRound_46 : decode cX0_doRound 46 = .ok (.getfield 15, 3) := by decide +kernel
theorem dX0_doRound_49 : decode cX0_doRound 49 = .ok (.iload_n 2, 1) := by decide +kernel
theorem dX0_doRound_50 : decode cX0_doRound 50 = .ok (.iaload, 1) := by decide +kernel
theorem dX0_doRound_51 : decode cX0_doRound 51 = .ok (.iload_n 3, 1) := by decide +kernel
theorem dX0_doRound_52 : decode cX0_doRound 52 = .ok (.invokestatic 80, 3) := by decide +kernel
theorem dX0_doRound_55 : decode cX0_doRound 55 = .ok (.iastore, 1) := by decide +kernel
theorem dX0_doRound_56 : decode cX0_doRound 56 = .ok (.iinc 2 1, 3) := by decide +kernel
theorem dX0_doRound_59 : decode cX0_doRound 59 = .ok (.goto (-50), 3) := by decide +kernel
theorem dX0_doRound_62 : decode cX0_doRound 62 = .ok (.return_, 1) := by decide +kernel
set_option maxRecDepth 20000 in
theorem ggX0_shortened_J6_bitCount_0f7a4 : GoodIn wsX0_shortened wsJ6_bitCount_0f7a4 := goodIn_r _ [4, 5, 6, 7] (by decide +kernel) (by decide +kernel)
set_option maxRecDepth 20000 in
theorem gX0_shortened_J6_bitCount_0f7a4 : GoodIn wsX0_shortened (va_wsS RX0 83 yJ6_bitCount_0f7a4 wsJ6_bitCount_0f7a4) := goodIn_app (goodIn_of _ (by decide +kernel)) ggX0_shortened_J6_bitCount_0f7a4
theorem dX0_shortened_0 : decode cX0_shortened 0 = .ok (.iload_n 0, 1) := by decide +kernel
theorem dX0_shortened_1 : decode cX0_shortened 1 = .ok (.iload_n 1, 1) := by decide +kernel
theorem dX0_shortened_2 : decode cX0_shortened 2 = .ok (.ixor, 1) := by decide +kernel
theorem dX0_shortened_3 : decode cX0_shortened 3 = .ok (.istore_n 2, 1) := by decide +kernel
theorem dX0_shortened_4 : decode cX0_shortened 4 = .ok (.iload_n 2, 1) := by decide +kernel
theorem dX0_shortened_5 : decode cX0_shortened 5 = .ok (.iload_n 2, 1) := by decide +kernel
theorem dX0_shortened_6 : decode cX0_shortened 6 = .ok (.ineg, 1) := by decide +kernel
theorem dX0_shortened_7 : decode cX0_shortened 7 = .ok (.iand, 1) := by decide +kernel
theorem dX0_shortened_8 : decode cX0_shortened 8 = .ok (.iconst 1, 1) := by decide +kernel
theorem dX0_shortened_9 : decode cX0_shortened 9 = .ok (.isub, 1) := by decide +kernel
theorem dX0_shortened_10 : decode cX0_shortened 10 = .ok (.invokestatic 83, 3) := by decide +kernel
theorem dX0_shortened_13 : decode cX0_shortened 13 = .ok (.istore_n 3, 1) := by decide +kernel
theorem dX0_shortened_14 : decode cX0_shortened 14 = .ok (.iconst 2, 1) := by decide +kernel
theorem dX0_shortened_15 : decode cX0_shortened 15 = .ok (.iload_n 3, 1) := by decide +kernel
theorem dX0_shortened_16 : decode cX0_shortened 16 = .ok (.imul, 1) := by decide +kernel
theorem dX0_shortened_17 : decode cX0_shortened 17 = .ok (.iload_n 0, 1) := by decide +kernel
theorem dX0_shortened_18 : decode cX0_shortened 18 = .ok (.iload_n 3, 1) := by decide +kernel
theorem dX0_shortened_19 : decode cX0_shortened 19 = .ok (.ishr, 1) := by decide +kernel
theorem dX0_shortened_20 : decode cX0_shortened 20 = .ok (.iconst 1, 1) := by decide +kernel
theorem dX0_shortened_21 : decode cX0_shortened 21 = .ok (.iand, 1) := by decide +kernel
theorem dX0_shortened_22 : decode cX0_shortened 22 = .ok (.iadd, 1) := by decide +kernel
theorem dX0_shortened_23 : decode cX0_shortened 23 = .ok (.ireturn, 1) := by decide +kernel
set_option maxRecDepth 20000 in
theorem ggX0_giveUpColour_X0_previous : GoodIn wsX0_giveUpColour wsX0_previous := goodIn_r _ [7, 1, 15, 16, 17] (by decide +kernel) (by decide +kernel)
set_option maxRecDepth 20000 in
theorem gX0_giveUpColour_X0_previous : GoodIn wsX0_giveUpColour (wsV RX0 59 RX0 yX0_previous wsX0_previous) := goodIn_app (goodIn_of _ (by decide +kernel)) ggX0_giveUpColour_X0_previous
set_option maxRecDepth 20000 in
theorem ggX0_giveUpColour_X0_next : GoodIn wsX0_giveUpColour wsX0_next := goodIn_r _ [11, 1, 15, 16, 17] (by decide +kernel) (by decide +kernel)
set_option maxRecDepth 20000 in
theorem gX0_giveUpColour_X0_next : GoodIn wsX0_giveUpColour (wsV RX0 41 RX0 yX0_next wsX0_next) := goodIn_app (goodIn_of _ (by decide +kernel)) ggX0_giveUpColour_X0_next
set_option maxRecDepth 20000 in
theorem ggX0_giveUpColour_X0_leastBeside : GoodIn wsX0_giveUpColour wsX0_leastBeside := goodIn_r _ [14] (by decide +kernel) (by decide +kernel)
set_option maxRecDepth 20000 in
theorem gX0_giveUpColour_X0_leastBeside : GoodIn wsX0_giveUpColour (va_wsS RX0 88 yX0_leastBeside wsX0_leastBeside) := goodIn_app (goodIn_of _ (by decide +kernel)) ggX0_giveUpColour_X0_leastBeside
theorem dX0_giveUpColour_0 : decode cX0_giveUpColour 0 = .ok (.iconst 0, 1) := by decide +kernel
theorem dX0_giveUpColour_1 : decode cX0_giveUpColour 1 = .ok (.istore_n 2, 1) := by decide +kernel
theorem dX0_giveUpColour_2 : decode cX0_giveUpColour 2 = .ok (.iload_n 2, 1) := by decide +kernel
theorem dX0_giveUpColour_3 : decode cX0_giveUpColour 3 = .ok (.aload_n 0, 1) := by decide +kernel
theorem dX0_giveUpColour_4 : decode cX0_giveUpColour 4 = .ok (.getfield 28, 3) := by decide +kernel
theorem dX0_giveUpColour_7 : decode cX0_giveUpColour 7 = .ok (.if_icmp .ge 48, 3) := by decide +kernel
theorem dX0_giveUpColour_10 : decode cX0_giveUpColour 10 = .ok (.aload_n 0, 1) := by decide +kernel
theorem dX0_giveUpColour_11 : decode cX0_giveUpColour 11 = .ok (.getfield 15, 3) := by decide +kernel
theorem dX0_giveUpColour_14 : decode cX0_giveUpColour 14 = .ok (.iload_n 2, 1) := by decide +kernel
theorem dX0_giveUpColour_15 : decode cX0_giveUpColour 15 = .ok (.iaload, 1) := by decide +kernel
theorem dX0_giveUpColour_16 : decode cX0_giveUpColour 16 = .ok (.iload_n 1, 1) := by decide +kernel
theorem dX0_giveUpColour_17 : decode cX0_giveUpColour 17 = .ok (.if_icmp .ne 32, 3) := by decide +kernel
theorem dX0_giveUpColour_20 : decode cX0_giveUpColour 20 = .ok (.aload_n 0, 1) := by decide +kernel
theorem dX0_giveUpColour_21 : decode cX0_giveUpColour 21 = .ok (.getfield 15, 3) := by decide +kernel
theorem dX0_giveUpColour_24 : decode cX0_giveUpColour 24 = .ok (.iload_n 2, 1) := by decide +kernel
theorem dX0_giveUpColour_25 : decode cX0_giveUpColour 25 = .ok (.aload_n 0, 1) := by decide +kernel
theorem dX0_giveUpColour_26 : decode cX0_giveUpColour 26 = .ok (.getfield 15, 3) := by decide +kernel
theorem dX0_giveUpColour_29 : decode cX0_giveUpColour 29 = .ok (.aload_n 0, 1) := by decide +kernel
theorem dX0_giveUpColour_30 : decode cX0_giveUpColour 30 = .ok (.iload_n 2, 1) := by decide +kernel
theorem dX0_giveUpColour_31 : decode cX0_giveUpColour 31 = .ok (.invokevirtual 59, 3) := by decide +kernel
theorem dX0_giveUpColour_34 : decode cX0_giveUpColour 34 = .ok (.iaload, 1) := by decide +kernel
theorem dX0_giveUpColour_35 : decode cX0_giveUpColour 35 = .ok (.aload_n 0, 1) := by decide +kernel
theorem dX0_giveUpColour_36 : decode cX0_giveUpColour 36 = .ok (.getfield 15, 3) := by decide +kernel
theorem dX0_giveUpColour_39 : decode cX0_giveUpColour 39 = .ok (.aload_n 0, 1) := by decide +kernel
theorem dX0_giveUpColour_40 : decode cX0_giveUpColour 40 = .ok (.iload_n 2, 1) := by decide +kernel
theorem dX0_giveUpColour_41 : decode cX0_giveUpColour 41 = .ok (.invokevirtual 41, 3) := by decide +kernel
theorem dX0_giveUpColour_44 : decode cX0_giveUpColour 44 = .ok (.iaload, 1) := by decide +kernel
theorem dX0_giveUpColour_45 : decode cX0_giveUpColour 45 = .ok (.invokestatic 88, 3) := by decide +kernel
theorem dX0_giveUpColour_48 : decode cX0_giveUpColour 48 = .ok (.iastore, 1) := by decide +kernel
theorem dX0_giveUpColour_49 : decode cX0_giveUpColour 49 = .ok (.iinc 2 1, 3) := by decide +kernel
theorem dX0_giveUpColour_52 : decode cX0_giveUpColour 52 = .ok (.goto (-50), 3) := by decide +kernel
theorem dX0_giveUpColour_55 : decode cX0_giveUpColour 55 = .ok (.return_, 1) := by decide +kernel
theorem dX0_leastBeside_0 : decode cX0_leastBeside 0 = .ok (.iconst 0, 1) := by decide +kernel
theorem dX0_leastBeside_1 : decode cX0_leastBeside 1 = .ok (.istore_n 2, 1) := by decide +kernel
theorem dX0_leastBeside_2 : decode cX0_leastBeside 2 = .ok (.iload_n 2, 1) := by decide +kernel
theorem dX0_leastBeside_3 : decode cX0_leastBeside 3 = .ok (.iconst 2, 1) := by decide +kernel
theorem dX0_leastBeside_4 : decode cX0_leastBeside 4 = .ok (.if_icmp .ge 21, 3) := by decide +kernel
theorem dX0_leastBeside_7 : decode cX0_leastBeside 7 = .ok (.iload_n 2, 1) := by decide +kernel
theorem dX0_leastBeside_8 : decode cX0_leastBeside 8 = .ok (.iload_n 0, 1) := by decide +kernel
theorem dX0_leastBeside_9 : decode cX0_leastBeside 9 = .ok (.if_icmp .eq 10, 3) := by decide +kernel
theorem dX0_leastBeside_12 : decode cX0_leastBeside 12 = .ok (.iload_n 2, 1) := by decide +kernel
theorem dX0_leastBeside_13 : decode cX0_leastBeside 13 = .ok (.iload_n 1, 1) := by decide +kernel
theorem dX0_leastBeside_14 : decode cX0_leastBeside 14 = .ok (.if_icmp .eq 5, 3) := by decide +kernel
theorem dX0_leastBeside_17 : decode cX0_leastBeside 17 = .ok (.iload_n 2, 1) := by decide +kernel
theorem dX0_leastBeside_18 : decode cX0_leastBeside 18 = .ok (.ireturn, 1) := by decide +kernel
theorem dX0_leastBeside_19 : decode cX0_leastBeside 19 = .ok (.iinc 2 1, 3) := by decide +kernel
theorem dX0_leastBeside_22 : decode cX0_leastBeside 22 = .ok (.goto (-20), 3) := by decide +kernel
theorem dX0_leastBeside_25 : decode cX0_leastBeside 25 = .ok (.iconst 2, 1) := by decide +kernel
theorem dX0_leastBeside_26 : decode cX0_leastBeside 26 = .ok (.ireturn, 1) := by decide +kernel
theorem dX0_takeNumbers_0 : decode cX0_takeNumbers 0 = .ok (.aload_n 0, 1) := by decide +kernel
theorem dX0_takeNumbers_1 : decode cX0_takeNumbers 1 = .ok (.getfield 15, 3) := by decide +kernel
theorem dX0_takeNumbers_4 : decode cX0_takeNumbers 4 = .ok (.iconst 0, 1) := by decide +kernel
theorem dX0_takeNumbers_5 : decode cX0_takeNumbers 5 = .ok (.aload_n 0, 1) := by decide +kernel
theorem dX0_takeNumbers_6 : decode cX0_takeNumbers 6 = .ok (.getfield 9, 3) := by decide +kernel
theorem dX0_takeNumbers_9 : decode cX0_takeNumbers 9 = .ok (.iconst 0, 1) := by decide +kernel
theorem dX0_takeNumbers_10 : decode cX0_takeNumbers 10 = .ok (.aload_n 0, 1) := by decide +kernel
theorem dX0_takeNumbers_11 : decode cX0_takeNumbers 11 = .ok (.getfield 28, 3) := by decide +kernel
theorem dX0_takeNumbers_14 : decode cX0_takeNumbers 14 = .ok (.invokestatic 91, 3) := by decide +kernel
theorem dX0_takeNumbers_17 : decode cX0_takeNumbers 17 = .ok (.return_, 1) := by decide +kernel
set_option maxRecDepth 20000 in
theorem ggX0_unlike_X0_standsBefore : GoodIn wsX0_unlike wsX0_standsBefore := goodIn_r _ [5] (by decide +kernel) (by decide +kernel)
