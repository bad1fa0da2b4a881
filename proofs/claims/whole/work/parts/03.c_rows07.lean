set_option maxRecDepth 20000 in
theorem ggX3_behindLast_X3_isWalk : GoodIn wsX3_behindLast wsX3_isWalk := goodIn_r _ [6, 7, 8, 9, 10, 11, 12, 13, 14, 15, 16] (by decide +kernel) (by decide +kernel)
set_option maxRecDepth 20000 in
theorem gX3_behindLast_X3_isWalk : GoodIn wsX3_behindLast (wsV RX3 71 RX3 yX3_isWalk wsX3_isWalk) := goodIn_app (goodIn_of _ (by decide +kernel)) ggX3_behindLast_X3_isWalk
theorem dX3_behindLast_0 : decode cX3_behindLast 0 = .ok (.iconst (-1), 1) := by decide +kernel
theorem dX3_behindLast_1 : decode cX3_behindLast 1 = .ok (.istore_n 2, 1) := by decide +kernel
theorem dX3_behindLast_2 : decode cX3_behindLast 2 = .ok (.iconst 0, 1) := by decide +kernel
theorem dX3_behindLast_3 : decode cX3_behindLast 3 = .ok (.istore_n 3, 1) := by decide +kernel
theorem dX3_behindLast_4 : decode cX3_behindLast 4 = .ok (.iload_n 3, 1) := by decide +kernel
theorem dX3_behindLast_5 : decode cX3_behindLast 5 = .ok (.bipush 60, 2) := by decide +kernel
theorem dX3_behindLast_7 : decode cX3_behindLast 7 = .ok (.if_icmp .gt 77, 3) := by decide +kernel
theorem dX3_behindLast_10 : decode cX3_behindLast 10 = .ok (.iconst 0, 1) := by decide +kernel
theorem dX3_behindLast_11 : decode cX3_behindLast 11 = .ok (.istore 4, 2) := by decide +kernel
theorem dX3_behindLast_13 : decode cX3_behindLast 13 = .ok (.iconst 0, 1) := by decide +kernel
theorem dX3_behindLast_14 : decode cX3_behindLast 14 = .ok (.istore 5, 2) := by decide +kernel
theorem dX3_behindLast_16 : decode cX3_behindLast 16 = .ok (.iload 5, 2) := by decide +kernel
theorem dX3_behindLast_18 : decode cX3_behindLast 18 = .ok (.aload_n 0, 1) := by decide +kernel
theorem dX3_behindLast_19 : decode cX3_behindLast 19 = .ok (.getfield 40, 3) := by decide +kernel
theorem dX3_behindLast_22 : decode cX3_behindLast 22 = .ok (.if_icmp .ge 45, 3) := by decide +kernel
theorem dX3_behindLast_25 : decode cX3_behindLast 25 = .ok (.iload 4, 2) := by decide +kernel
theorem dX3_behindLast_27 : decode cX3_behindLast 27 = .ok (.ifCond .ne 27, 3) := by decide +kernel
theorem dX3_behindLast_30 : decode cX3_behindLast 30 = .ok (.iload_n 1, 1) := by decide +kernel
theorem dX3_behindLast_31 : decode cX3_behindLast 31 = .ok (.bipush (-9), 2) := by decide +kernel
theorem dX3_behindLast_33 : decode cX3_behindLast 33 = .ok (.if_icmp .eq 9, 3) := by decide +kernel
theorem dX3_behindLast_36 : decode cX3_behindLast 36 = .ok (.iload_n 1, 1) := by decide +kernel
theorem dX3_behindLast_37 : decode cX3_behindLast 37 = .ok (.iload 5, 2) := by decide +kernel
theorem dX3_behindLast_39 : decode cX3_behindLast 39 = .ok (.if_icmp .ne 19, 3) := by decide +kernel
theorem dX3_behindLast_42 : decode cX3_behindLast 42 = .ok (.aload_n 0, 1) := by decide +kernel
theorem dX3_behindLast_43 : decode cX3_behindLast 43 = .ok (.iload 5, 2) := by decide +kernel
theorem dX3_behindLast_45 : decode cX3_behindLast 45 = .ok (.iload 5, 2) := by decide +kernel
theorem dX3_behindLast_47 : decode cX3_behindLast 47 = .ok (.iload_n 3, 1) := by decide +kernel
theorem dX3_behindLast_48 : decode cX3_behindLast 48 = .ok (.invokevirtual 71, 3) := by decide +kernel
theorem dX3_behindLast_51 : decode cX3_behindLast 51 = .ok (.ifCond .eq 7, 3) := by decide +kernel
theorem dX3_behindLast_54 : decode cX3_behindLast 54 = .ok (.iconst 1, 1) := by decide +kernel
theorem dX3_behindLast_55 : decode cX3_behindLast 55 = .ok (.goto 4, 3) := by decide +kernel
theorem dX3_behindLast_58 : decode cX3_behindLast 58 = .ok (.iconst 0, 1) := by decide +kernel
theorem dX3_behindLast_59 : decode cX3_behindLast 59 = .ok (.istore 4, 2) := by decide +kernel
theorem dX3_behindLast_61 : decode cX3_behindLast 61 = .ok (.iinc 5 1, 3) := by decide +kernel
theorem dX3_behindLast_64 : decode cX3_behindLast 64 = .ok (.goto (-48), 3) := by decide +kernel
theorem dX3_behindLast_67 : decode cX3_behindLast 67 = .ok (.iload 4, 2) := by decide +kernel
theorem dX3_behindLast_69 : decode cX3_behindLast 69 = .ok (.ifCond .eq 7, 3) := by decide +kernel
theorem dX3_behindLast_72 : decode cX3_behindLast 72 = .ok (.iload_n 2, 1) := by decide +kernel
theorem dX3_behindLast_73 : decode cX3_behindLast 73 = .ok (.goto 4, 3) := by decide +kernel
theorem dX3_behindLast_76 : decode cX3_behindLast 76 = .ok (.iload_n 3, 1) := by decide +kernel
theorem dX3_behindLast_77 : decode cX3_behindLast 77 = .ok (.istore_n 2, 1) := by decide +kernel
theorem dX3_behindLast_78 : decode cX3_behindLast 78 = .ok (.iinc 3 1, 3) := by decide +kernel
theorem dX3_behindLast_81 : decode cX3_behindLast 81 = .ok (.goto (-77), 3) := by decide +kernel
theorem dX3_behindLast_84 : decode cX3_behindLast 84 = .ok (.iload_n 2, 1) := by decide +kernel
theorem dX3_behindLast_85 : decode cX3_behindLast 85 = .ok (.iconst 1, 1) := by decide +kernel
theorem dX3_behindLast_86 : decode cX3_behindLast 86 = .ok (.iadd, 1) := by decide +kernel
theorem dX3_behindLast_87 : decode cX3_behindLast 87 = .ok (.ireturn, 1) := by decide +kernel
set_option maxRecDepth 20000 in
theorem ggX3_sure_X3_layLeads : GoodIn wsX3_sure wsX3_layLeads := goodIn_r _ [6, 7, 1, 8, 9, 25, 26, 27, 28, 29, 30, 31, 32, 33] (by decide +kernel) (by decide +kernel)
set_option maxRecDepth 20000 in
theorem gX3_sure_X3_layLeads : GoodIn wsX3_sure (wsV RX3 74 RX3 yX3_layLeads wsX3_layLeads) := goodIn_app (goodIn_of _ (by decide +kernel)) ggX3_sure_X3_layLeads
set_option maxRecDepth 20000 in
theorem ggX3_sure_X3_paceOf : GoodIn wsX3_sure wsX3_paceOf := goodIn_r _ [13, 14, 15, 16, 5, 17, 7, 18, 19, 20, 25, 26, 27, 28, 29, 30, 31, 32, 33] (by decide +kernel) (by decide +kernel)
set_option maxRecDepth 20000 in
theorem gX3_sure_X3_paceOf : GoodIn wsX3_sure (wsV RX3 96 RX3 yX3_paceOf wsX3_paceOf) := goodIn_app (goodIn_of _ (by decide +kernel)) ggX3_sure_X3_paceOf
set_option maxRecDepth 20000 in
theorem ggX3_sure_X3_behindLast : GoodIn wsX3_sure wsX3_behindLast := goodIn_r _ [24, 1, 14, 15, 16, 5, 17, 7, 25, 26, 27, 28, 29, 30, 31, 32, 33] (by decide +kernel) (by decide +kernel)
set_option maxRecDepth 20000 in
theorem gX3_sure_X3_behindLast : GoodIn wsX3_sure (wsV RX3 99 RX3 yX3_behindLast wsX3_behindLast) := goodIn_app (goodIn_of _ (by decide +kernel)) ggX3_sure_X3_behindLast
theorem dX3_sure_0 : decode cX3_sure 0 = .ok (.aload_n 0, 1) := by decide +kernel
theorem dX3_sure_1 : decode cX3_sure 1 = .ok (.invokevirtual 74, 3) := by decide +kernel
theorem dX3_sure_4 : decode cX3_sure 4 = .ok (.iconst 0, 1) := by decide +kernel
theorem dX3_sure_5 : decode cX3_sure 5 = .ok (.istore_n 1, 1) := by decide +kernel
theorem dX3_sure_6 : decode cX3_sure 6 = .ok (.iconst 0, 1) := by decide +kernel
theorem dX3_sure_7 : decode cX3_sure 7 = .ok (.istore_n 2, 1) := by decide +kernel
theorem dX3_sure_8 : decode cX3_sure 8 = .ok (.iload_n 2, 1) := by decide +kernel
theorem dX3_sure_9 : decode cX3_sure 9 = .ok (.aload_n 0, 1) := by decide +kernel
theorem dX3_sure_10 : decode cX3_sure 10 = .ok (.getfield 40, 3) := by decide +kernel
theorem dX3_sure_13 : decode cX3_sure 13 = .ok (.if_icmp .ge 28, 3) := by decide +kernel
theorem dX3_sure_16 : decode cX3_sure 16 = .ok (.iload_n 1, 1) := by decide +kernel
theorem dX3_sure_17 : decode cX3_sure 17 = .ok (.ifCond .ne 12, 3) := by decide +kernel
theorem dX3_sure_20 : decode cX3_sure 20 = .ok (.aload_n 0, 1) := by decide +kernel
theorem dX3_sure_21 : decode cX3_sure 21 = .ok (.iload_n 2, 1) := by decide +kernel
theorem dX3_sure_22 : decode cX3_sure 22 = .ok (.invokevirtual 96, 3) := by decide +kernel
theorem dX3_sure_25 : decode cX3_sure 25 = .ok (.iconst 1, 1) := by decide +kernel
theorem dX3_sure_26 : decode cX3_sure 26 = .ok (.if_icmp .ne 7, 3) := by decide +kernel
theorem dX3_sure_29 : decode cX3_sure 29 = .ok (.iconst 1, 1) := by decide +kernel
theorem dX3_sure_30 : decode cX3_sure 30 = .ok (.goto 4, 3) := by decide +kernel
theorem dX3_sure_33 : decode cX3_sure 33 = .ok (.iconst 0, 1) := by decide +kernel
theorem dX3_sure_34 : decode cX3_sure 34 = .ok (.istore_n 1, 1) := by decide +kernel
theorem dX3_sure_35 : decode cX3_sure 35 = .ok (.iinc 2 1, 3) := by decide +kernel
theorem dX3_sure_38 : decode cX3_sure 38 = .ok (.goto (-30), 3) := by decide +kernel
theorem dX3_sure_41 : decode cX3_sure 41 = .ok (.aload_n 0, 1) := by decide +kernel
theorem dX3_sure_42 : decode cX3_sure 42 = .ok (.bipush (-9), 2) := by decide +kernel
theorem dX3_sure_44 : decode cX3_sure 44 = .ok (.invokevirtual 99, 3) := by decide +kernel
theorem dX3_sure_47 : decode cX3_sure 47 = .ok (.istore_n 2, 1) := by decide +kernel
theorem dX3_sure_48 : decode cX3_sure 48 = .ok (.iload_n 1, 1) := by decide +kernel
theorem dX3_sure_49 : decode cX3_sure 49 = .ok (.ifCond .ne 8, 3) := by decide +kernel
theorem dX3_sure_52 : decode cX3_sure 52 = .ok (.bipush (-9), 2) := by decide +kernel
theorem dX3_sure_54 : decode cX3_sure 54 = .ok (.goto 13, 3) := by decide +kernel
theorem dX3_sure_57 : decode cX3_sure 57 = .ok (.iload_n 2, 1) := by decide +kernel
theorem dX3_sure_58 : decode cX3_sure 58 = .ok (.iconst 1, 1) := by decide +kernel
theorem dX3_sure_59 : decode cX3_sure 59 = .ok (.if_icmp .ge 7, 3) := by decide +kernel
theorem dX3_sure_62 : decode cX3_sure 62 = .ok (.iconst 1, 1) := by decide +kernel
theorem dX3_sure_63 : decode cX3_sure 63 = .ok (.goto 4, 3) := by decide +kernel
theorem dX3_sure_66 : decode cX3_sure 66 = .ok (.iload_n 2, 1) := by decide +kernel
theorem dX3_sure_67 : decode cX3_sure 67 = .ok (.ireturn, 1) := by decide +kernel
set_option maxRecDepth 20000 in
theorem ggX3_free_X3_isLabel : GoodIn wsX3_free wsX3_isLabel := goodIn_r _ [5, 6, 7, 8, 4, 9, 32, 33, 34, 35, 36, 37, 38, 39, 40] (by decide +kernel) (by decide +kernel)
set_option maxRecDepth 20000 in
theorem gX3_free_X3_isLabel : GoodIn wsX3_free (wsV RX3 48 RX3 yX3_isLabel wsX3_isLabel) := goodIn_app (goodIn_of _ (by decide +kernel)) ggX3_free_X3_isLabel
set_option maxRecDepth 20000 in
theorem ggX3_free_X3_layLeads : GoodIn wsX3_free wsX3_layLeads := goodIn_r _ [13, 14, 6, 15, 16, 32, 33, 34, 35, 36, 37, 38, 39, 40] (by decide +kernel) (by decide +kernel)
set_option maxRecDepth 20000 in
theorem gX3_free_X3_layLeads : GoodIn wsX3_free (wsV RX3 74 RX3 yX3_layLeads wsX3_layLeads) := goodIn_app (goodIn_of _ (by decide +kernel)) ggX3_free_X3_layLeads
set_option maxRecDepth 20000 in
theorem ggX3_free_X3_paceOf : GoodIn wsX3_free wsX3_paceOf := goodIn_r _ [20, 21, 22, 23, 4, 24, 14, 25, 26, 27, 32, 33, 34, 35, 36, 37, 38, 39, 40] (by decide +kernel) (by decide +kernel)
set_option maxRecDepth 20000 in
theorem gX3_free_X3_paceOf : GoodIn wsX3_free (wsV RX3 96 RX3 yX3_paceOf wsX3_paceOf) := goodIn_app (goodIn_of _ (by decide +kernel)) ggX3_free_X3_paceOf
set_option maxRecDepth 20000 in
theorem ggX3_free_X3_behindLast : GoodIn wsX3_free wsX3_behindLast := goodIn_r _ [31, 6, 21, 22, 23, 4, 24, 14, 32, 33, 34, 35, 36, 37, 38, 39, 40] (by decide +kernel) (by decide +kernel)
set_option maxRecDepth 20000 in
theorem gX3_free_X3_behindLast : GoodIn wsX3_free (wsV RX3 99 RX3 yX3_behindLast wsX3_behindLast) := goodIn_app (goodIn_of _ (by decide +kernel)) ggX3_free_X3_behindLast
theorem dX3_free_0 : decode cX3_free 0 = .ok (.aload_n 0, 1) := by decide +kernel
theorem dX3_free_1 : decode cX3_free 1 = .ok (.iload_n 1, 1) := by decide +kernel
theorem dX3_free_2 : decode cX3_free 2 = .ok (.invokevirtual 48, 3) := by decide +kernel
theorem dX3_free_5 : decode cX3_free 5 = .ok (.ifCond .ne 5, 3) := by decide +kernel
theorem dX3_free_8 : decode cX3_free 8 = .ok (.iconst (-1), 1) := by decide +kernel
theorem dX3_free_9 : decode cX3_free 9 = .ok (.ireturn, 1) := by decide +kernel
theorem dX3_free_10 : decode cX3_free 10 = .ok (.aload_n 0, 1) := by decide +kernel
theorem dX3_free_11 : decode cX3_free 11 = .ok (.invokevirtual 74, 3) := by decide +kernel
theorem dX3_free_14 : decode cX3_free 14 = .ok (.aload_n 0, 1) := by decide +kernel
theorem dX3_free_15 : decode cX3_free 15 = .ok (.iload_n 1, 1) := by decide +kernel
theorem dX3_free_16 : decode cX3_free 16 = .ok (.invokevirtual 96, 3) := by decide +kernel
theorem dX3_free_19 : decode cX3_free 19 = .ok (.iconst 1, 1) := by decide +kernel
theorem dX3_free_20 : decode cX3_free 20 = .ok (.if_icmp .ne 11, 3) := by decide +kernel
theorem dX3_free_23 : decode cX3_free 23 = .ok (.aload_n 0, 1) := by decide +kernel
theorem dX3_free_24 : decode cX3_free 24 = .ok (.iload_n 1, 1) := by decide +kernel
theorem dX3_free_25 : decode cX3_free 25 = .ok (.invokevirtual 99, 3) := by decide +kernel
theorem dX3_free_28 : decode cX3_free 28 = .ok (.goto 5, 3) := by decide +kernel
theorem dX3_free_31 : decode cX3_free 31 = .ok (.bipush (-9), 2) := by decide +kernel
theorem dX3_free_33 : decode cX3_free 33 = .ok (.ireturn, 1) := by decide +kernel
set_option maxRecDepth 20000 in
theorem ggX3_mirrors_X3_layLeads : GoodIn wsX3_mirrors wsX3_layLeads := goodIn_r _ [7, 8, 1, 2, 9, 18, 19, 20, 21, 22, 23, 24, 25, 26] (by decide +kernel) (by decide +kernel)
set_option maxRecDepth 20000 in
theorem gX3_mirrors_X3_layLeads : GoodIn wsX3_mirrors (wsV RX3 74 RX3 yX3_layLeads wsX3_layLeads) := goodIn_app (goodIn_of _ (by decide +kernel)) ggX3_mirrors_X3_layLeads
set_option maxRecDepth 20000 in
theorem ggX3_mirrors_X3_isOneBlock : GoodIn wsX3_mirrors wsX3_isOneBlock := goodIn_r _ [13, 14, 15, 16, 6, 17, 8, 18, 19, 20, 21, 22, 23, 24, 25, 26] (by decide +kernel) (by decide +kernel)
set_option maxRecDepth 20000 in
theorem gX3_mirrors_X3_isOneBlock : GoodIn wsX3_mirrors (wsV RX3 84 RX3 yX3_isOneBlock wsX3_isOneBlock) := goodIn_app (goodIn_of _ (by decide +kernel)) ggX3_mirrors_X3_isOneBlock
theorem dX3_mirrors_0 : decode cX3_mirrors 0 = .ok (.aload_n 0, 1) := by decide +kernel
theorem dX3_mirrors_1 : decode cX3_mirrors 1 = .ok (.invokevirtual 74, 3) := by decide +kernel
theorem dX3_mirrors_4 : decode cX3_mirrors 4 = .ok (.iconst 1, 1) := by decide +kernel
theorem dX3_mirrors_5 : decode cX3_mirrors 5 = .ok (.istore_n 1, 1) := by decide +kernel
theorem dX3_mirrors_6 : decode cX3_mirrors 6 = .ok (.iconst 0, 1) := by decide +kernel
theorem dX3_mirrors_7 : decode cX3_mirrors 7 = .ok (.istore_n 2, 1) := by decide +kernel
theorem dX3_mirrors_8 : decode cX3_mirrors 8 = .ok (.iload_n 2, 1) := by decide +kernel
theorem dX3_mirrors_9 : decode cX3_mirrors 9 = .ok (.bipush 36, 2) := by decide +kernel
theorem dX3_mirrors_11 : decode cX3_mirrors 11 = .ok (.if_icmp .ge 78, 3) := by decide +kernel
theorem dX3_mirrors_14 : decode cX3_mirrors 14 = .ok (.iload_n 2, 1) := by decide +kernel
theorem dX3_mirrors_15 : decode cX3_mirrors 15 = .ok (.bipush 6, 2) := by decide +kernel
theorem dX3_mirrors_17 : decode cX3_mirrors 17 = .ok (.idiv, 1) := by decide +kernel
theorem dX3_mirrors_18 : decode cX3_mirrors 18 = .ok (.istore_n 3, 1) := by decide +kernel
theorem dX3_mirrors_19 : decode cX3_mirrors 19 = .ok (.iload_n 2, 1) := by decide +kernel
theorem dX3_mirrors_20 : decode cX3_mirrors 20 = .ok (.bipush 6, 2) := by decide +kernel
theorem dX3_mirrors_22 : decode cX3_mirrors 22 = .ok (.irem, 1) := by decide +kernel
theorem dX3_mirrors_23 : decode cX3_mirrors 23 = .ok (.istore 4, 2) := by decide +kernel
theorem dX3_mirrors_25 : decode cX3_mirrors 25 = .ok (.iload_n 1, 1) := by decide +kernel
theorem dX3_mirrors_26 : decode cX3_mirrors 26 = .ok (.ifCond .eq 55, 3) := by decide +kernel
theorem dX3_mirrors_29 : decode cX3_mirrors 29 = .ok (.iload_n 3, 1) := by decide +kernel
theorem dX3_mirrors_30 : decode cX3_mirrors 30 = .ok (.aload_n 0, 1) := by decide +kernel
theorem dX3_mirrors_31 : decode cX3_mirrors 31 = .ok (.getfield 40, 3) := by decide +kernel
theorem dX3_mirrors_34 : decode cX3_mirrors 34 = .ok (.if_icmp .ge 43, 3) := by decide +kernel
theorem dX3_mirrors_37 : decode cX3_mirrors 37 = .ok (.iload 4, 2) := by decide +kernel
theorem dX3_mirrors_39 : decode cX3_mirrors 39 = .ok (.aload_n 0, 1) := by decide +kernel
theorem dX3_mirrors_40 : decode cX3_mirrors 40 = .ok (.getfield 40, 3) := by decide +kernel
theorem dX3_mirrors_43 : decode cX3_mirrors 43 = .ok (.if_icmp .ge 34, 3) := by decide +kernel
theorem dX3_mirrors_46 : decode cX3_mirrors 46 = .ok (.aload_n 0, 1) := by decide +kernel
theorem dX3_mirrors_47 : decode cX3_mirrors 47 = .ok (.iload_n 3, 1) := by decide +kernel
theorem dX3_mirrors_48 : decode cX3_mirrors 48 = .ok (.iload 4, 2) := by decide +kernel
theorem dX3_mirrors_50 : decode cX3_mirrors 50 = .ok (.invokevirtual 84, 3) := by decide +kernel
theorem dX3_mirrors_53 : decode cX3_mirrors 53 = .ok (.ifCond .eq 24, 3) := by decide +kernel
theorem dX3_mirrors_56 : decode cX3_mirrors 56 = .ok (.aload_n 0, 1) := by decide +kernel
theorem dX3_mirrors_57 : decode cX3_mirrors 57 = .ok (.getfield 7, 3) := by decide +kernel
theorem dX3_mirrors_60 : decode cX3_mirrors 60 = .ok (.iload_n 2, 1) := by decide +kernel
theorem dX3_mirrors_61 : decode cX3_mirrors 61 = .ok (.baload, 1) := by decide +kernel
theorem dX3_mirrors_62 : decode cX3_mirrors 62 = .ok (.aload_n 0, 1) := by decide +kernel
theorem dX3_mirrors_63 : decode cX3_mirrors 63 = .ok (.getfield 7, 3) := by decide +kernel
theorem dX3_mirrors_66 : decode cX3_mirrors 66 = .ok (.bipush 6, 2) := by decide +kernel
theorem dX3_mirrors_68 : decode cX3_mirrors 68 = .ok (.iload 4, 2) := by decide +kernel
theorem dX3_mirrors_70 : decode cX3_mirrors 70 = .ok (.imul, 1) := by decide +kernel
theorem dX3_mirrors_71 : decode cX3_mirrors 71 = .ok (.iload_n 3, 1) := by decide +kernel
theorem dX3_mirrors_72 : decode cX3_mirrors 72 = .ok (.iadd, 1) := by decide +kernel
theorem dX3_mirrors_73 : decode cX3_mirrors 73 = .ok (.baload, 1) := by decide +kernel
theorem dX3_mirrors_74 : decode cX3_mirrors 74 = .ok (.if_icmp .ne 7, 3) := by decide +kernel
theorem dX3_mirrors_77 : decode cX3_mirrors 77 = .ok (.iconst 1, 1) := by decide +kernel
theorem dX3_mirrors_78 : decode cX3_mirrors 78 = .ok (.goto 4, 3) := by decide +kernel
theorem dX3_mirrors_81 : decode cX3_mirrors 81 = .ok (.iconst 0, 1) := by decide +kernel
theorem dX3_mirrors_82 : decode cX3_mirrors 82 = .ok (.istore_n 1, 1) := by decide +kernel
theorem dX3_mirrors_83 : decode cX3_mirrors 83 = .ok (.iinc 2 1, 3) := by decide +kernel
theorem dX3_mirrors_86 : decode cX3_mirrors 86 = .ok (.goto (-78), 3) := by decide +kernel
theorem dX3_mirrors_89 : decode cX3_mirrors 89 = .ok (.iload_n 1, 1) := by decide +kernel
theorem dX3_mirrors_90 : decode cX3_mirrors 90 = .ok (.ifCond .eq 7, 3) := by decide +kernel
theorem dX3_mirrors_93 : decode cX3_mirrors 93 = .ok (.iconst 1, 1) := by decide +kernel
theorem dX3_mirrors_94 : decode cX3_mirrors 94 = .ok (.goto 4, 3) := by decide +kernel
theorem dX3_mirrors_97 : decode cX3_mirrors 97 = .ok (.iconst 0, 1) := by decide +kernel
theorem dX3_mirrors_98 : decode cX3_mirrors 98 = .ok (.ireturn, 1) := by decide +kernel
theorem dX3_lay_0 : decode cX3_lay 0 = .ok (.aload_n 0, 1) := by decide +kernel
theorem dX3_lay_1 : decode cX3_lay 1 = .ok (.iload_n 1, 1) := by decide +kernel
theorem dX3_lay_2 : decode cX3_lay 2 = .ok (.putfield 102, 3) := by decide +kernel
theorem dX3_lay_5 : decode cX3_lay 5 = .ok (.iconst 0, 1) := by decide +kernel
theorem dX3_lay_6 : decode cX3_lay 6 = .ok (.istore_n 2, 1) := by decide +kernel
theorem dX3_lay_7 : decode cX3_lay 7 = .ok (.iload_n 2, 1) := by decide +kernel
theorem dX3_lay_8 : decode cX3_lay 8 = .ok (.bipush 60, 2) := by decide +kernel
theorem dX3_lay_10 : decode cX3_lay 10 = .ok (.if_icmp .ge 23, 3) := by decide +kernel
theorem dX3_lay_13 : decode cX3_lay 13 = .ok (.aload_n 0, 1) := by decide +kernel
theorem dX3_lay_14 : decode cX3_lay 14 = .ok (.getfield 27, 3) := by decide +kernel
theorem dX3_lay_17 : decode cX3_lay 17 = .ok (.iload_n 2, 1) := by decide +kernel
theorem dX3_lay_18 : decode cX3_lay 18 = .ok (.iconst 0, 1) := by decide +kernel
theorem dX3_lay_19 : decode cX3_lay 19 = .ok (.iastore, 1) := by decide +kernel
theorem dX3_lay_20 : decode cX3_lay 20 = .ok (.aload_n 0, 1) := by decide +kernel
theorem dX3_lay_21 : decode cX3_lay 21 = .ok (.getfield 30, 3) := by decide +kernel
theorem dX3_lay_24 : decode cX3_lay 24 = .ok (.iload_n 2, 1) := by decide +kernel
theorem dX3_lay_25 : decode cX3_lay 25 = .ok (.iload_n 2, 1) := by decide +kernel
theorem dX3_lay_26 : decode cX3_lay 26 = .ok (.iastore, 1) := by decide +kernel
theorem dX3_lay_27 : decode cX3_lay 27 = .ok (.iinc 2 1, 3) := by decide +kernel
theorem dX3_lay_30 : decode cX3_lay 30 = .ok (.goto (-23), 3) := by decide +kernel
theorem dX3_lay_33 : decode cX3_lay 33 = .ok (.return_, 1) := by decide +kernel
set_option maxRecDepth 20000 in
theorem ggX3_isPost_X3_in : GoodIn wsX3_isPost wsX3_in := goodIn_r _ [5] (by decide +kernel) (by decide +kernel)
set_option maxRecDepth 20000 in
theorem gX3_isPost_X3_in : GoodIn wsX3_isPost (va_wsS RX3 44 yX3_in wsX3_in) := goodIn_app (goodIn_of _ (by decide +kernel)) ggX3_isPost_X3_in
theorem dX3_isPost_0 : decode cX3_isPost 0 = .ok (.iload_n 1, 1) := by decide +kernel
theorem dX3_isPost_1 : decode cX3_isPost 1 = .ok (.iconst 0, 1) := by decide +kernel
theorem dX3_isPost_2 : decode cX3_isPost 2 = .ok (.aload_n 0, 1) := by decide +kernel
theorem dX3_isPost_3 : decode cX3_isPost 3 = .ok (.getfield 102, 3) := by decide +kernel
theorem dX3_isPost_6 : decode cX3_isPost 6 = .ok (.iconst 1, 1) := by decide +kernel
theorem dX3_isPost_7 : decode cX3_isPost 7 = .ok (.isub, 1) := by decide +kernel
theorem dX3_isPost_8 : decode cX3_isPost 8 = .ok (.invokestatic 44, 3) := by decide +kernel
theorem dX3_isPost_11 : decode cX3_isPost 11 = .ok (.ireturn, 1) := by decide +kernel
theorem dX3_place_0 : decode cX3_place 0 = .ok (.iload_n 1, 1) := by decide +kernel
theorem dX3_place_1 : decode cX3_place 1 = .ok (.aload_n 0, 1) := by decide +kernel
theorem dX3_place_2 : decode cX3_place 2 = .ok (.getfield 102, 3) := by decide +kernel
theorem dX3_place_5 : decode cX3_place 5 = .ok (.irem, 1) := by decide +kernel
theorem dX3_place_6 : decode cX3_place 6 = .ok (.aload_n 0, 1) := by decide +kernel
theorem dX3_place_7 : decode cX3_place 7 = .ok (.getfield 102, 3) := by decide +kernel
theorem dX3_place_10 : decode cX3_place 10 = .ok (.iadd, 1) := by decide +kernel
theorem dX3_place_11 : decode cX3_place 11 = .ok (.aload_n 0, 1) := by decide +kernel
theorem dX3_place_12 : decode cX3_place 12 = .ok (.getfield 102, 3) := by decide +kernel
theorem dX3_place_15 : decode cX3_place 15 = .ok (.irem, 1) := by decide +kernel
theorem dX3_place_16 : decode cX3_place 16 = .ok (.ireturn, 1) := by decide +kernel
set_option maxRecDepth 20000 in
theorem ggX3_ring_X3_in : GoodIn wsX3_ring wsX3_in := goodIn_r _ [5] (by decide +kernel) (by decide +kernel)
set_option maxRecDepth 20000 in
theorem gX3_ring_X3_in : GoodIn wsX3_ring (va_wsS RX3 44 yX3_in wsX3_in) := goodIn_app (goodIn_of _ (by decide +kernel)) ggX3_ring_X3_in
set_option maxRecDepth 20000 in
theorem ggX3_ring_X3_lay : GoodIn wsX3_ring wsX3_lay := goodIn_r _ [9, 1, 10, 11, 12, 13, 14, 15, 16, 17, 18, 19, 20] (by decide +kernel) (by decide +kernel)
set_option maxRecDepth 20000 in
theorem gX3_ring_X3_lay : GoodIn wsX3_ring (wsV RX3 37 RX3 yX3_lay wsX3_lay) := goodIn_app (goodIn_of _ (by decide +kernel)) ggX3_ring_X3_lay
theorem dX3_ring_0 : decode cX3_ring 0 = .ok (.iload_n 1, 1) := by decide +kernel
theorem dX3_ring_1 : decode cX3_ring 1 = .ok (.iconst 3, 1) := by decide +kernel
theorem dX3_ring_2 : decode cX3_ring 2 = .ok (.bipush 60, 2) := by decide +kernel
theorem dX3_ring_4 : decode cX3_ring 4 = .ok (.invokestatic 44, 3) := by decide +kernel
theorem dX3_ring_7 : decode cX3_ring 7 = .ok (.ifCond .ne 6, 3) := by decide +kernel
theorem dX3_ring_10 : decode cX3_ring 10 = .ok (.bipush (-2), 2) := by decide +kernel
theorem dX3_ring_12 : decode cX3_ring 12 = .ok (.ireturn, 1) := by decide +kernel
theorem dX3_ring_13 : decode cX3_ring 13 = .ok (.aload_n 0, 1) := by decide +kernel
theorem dX3_ring_14 : decode cX3_ring 14 = .ok (.getfield 102, 3) := by decide +kernel
theorem dX3_ring_17 : decode cX3_ring 17 = .ok (.istore_n 2, 1) := by decide +kernel
theorem dX3_ring_18 : decode cX3_ring 18 = .ok (.aload_n 0, 1) := by decide +kernel
theorem dX3_ring_19 : decode cX3_ring 19 = .ok (.iload_n 1, 1) := by decide +kernel
theorem dX3_ring_20 : decode cX3_ring 20 = .ok (.invokevirtual 37, 3) := by decide +kernel
theorem dX3_ring_23 : decode cX3_ring 23 = .ok (.iload_n 2, 1) := by decide +kernel
theorem dX3_ring_24 : decode cX3_ring 24 = .ok (.ireturn, 1) := by decide +kernel
set_option maxRecDepth 20000 in
theorem ggX3_put_X3_isPost : GoodIn wsX3_put wsX3_isPost := goodIn_r _ [6, 7, 8, 9, 5, 10, 16, 17, 18, 19, 20, 21, 22, 23, 24] (by decide +kernel) (by decide +kernel)
set_option maxRecDepth 20000 in
theorem gX3_put_X3_isPost : GoodIn wsX3_put (wsV RX3 105 RX3 yX3_isPost wsX3_isPost) := goodIn_app (goodIn_of _ (by decide +kernel)) ggX3_put_X3_isPost
set_option maxRecDepth 20000 in
theorem ggX3_put_X3_isLabel : GoodIn wsX3_put wsX3_isLabel := goodIn_r _ [14, 15, 8, 9, 5, 10, 16, 17, 18, 19, 20, 21, 22, 23, 24] (by decide +kernel) (by decide +kernel)
set_option maxRecDepth 20000 in
theorem gX3_put_X3_isLabel : GoodIn wsX3_put (wsV RX3 48 RX3 yX3_isLabel wsX3_isLabel) := goodIn_app (goodIn_of _ (by decide +kernel)) ggX3_put_X3_isLabel
theorem dX3_put_0 : decode cX3_put 0 = .ok (.aload_n 0, 1) := by decide +kernel
theorem dX3_put_1 : decode cX3_put 1 = .ok (.iload_n 1, 1) := by decide +kernel
theorem dX3_put_2 : decode cX3_put 2 = .ok (.invokevirtual 105, 3) := by decide +kernel
theorem dX3_put_5 : decode cX3_put 5 = .ok (.ifCond .eq 11, 3) := by decide +kernel
theorem dX3_put_8 : decode cX3_put 8 = .ok (.aload_n 0, 1) := by decide +kernel
theorem dX3_put_9 : decode cX3_put 9 = .ok (.iload_n 2, 1) := by decide +kernel
theorem dX3_put_10 : decode cX3_put 10 = .ok (.invokevirtual 48, 3) := by decide +kernel
theorem dX3_put_13 : decode cX3_put 13 = .ok (.ifCond .ne 5, 3) := by decide +kernel
theorem dX3_put_16 : decode cX3_put 16 = .ok (.iconst (-1), 1) := by decide +kernel
theorem dX3_put_17 : decode cX3_put 17 = .ok (.ireturn, 1) := by decide +kernel
theorem dX3_put_18 : decode cX3_put 18 = .ok (.aload_n 0, 1) := by decide +kernel
theorem dX3_put_19 : decode cX3_put 19 = .ok (.getfield 27, 3) := by decide +kernel
theorem dX3_put_22 : decode cX3_put 22 = .ok (.iload_n 1, 1) := by decide +kernel
theorem dX3_put_23 : decode cX3_put 23 = .ok (.iaload, 1) := by decide +kernel
theorem dX3_put_24 : decode cX3_put 24 = .ok (.istore_n 3, 1) := by decide +kernel
theorem dX3_put_25 : decode cX3_put 25 = .ok (.aload_n 0, 1) := by decide +kernel
theorem dX3_put_26 : decode cX3_put 26 = .ok (.getfield 27, 3) := by decide +kernel
theorem dX3_put_29 : decode cX3_put 29 = .ok (.iload_n 1, 1) := by decide +kernel
theorem dX3_put_30 : decode cX3_put 30 = .ok (.iload_n 2, 1) := by decide +kernel
theorem dX3_put_31 : decode cX3_put 31 = .ok (.iastore, 1) := by decide +kernel
theorem dX3_put_32 : decode cX3_put 32 = .ok (.iload_n 3, 1) := by decide +kernel
theorem dX3_put_33 : decode cX3_put 33 = .ok (.ireturn, 1) := by decide +kernel
set_option maxRecDepth 20000 in
theorem ggX3_at_X3_isPost : GoodIn wsX3_at wsX3_isPost := goodIn_r _ [6, 7, 8, 9, 5, 10, 11, 12, 13, 14, 15, 16, 17, 18, 19] (by decide +kernel) (by decide +kernel)
set_option maxRecDepth 20000 in
theorem gX3_at_X3_isPost : GoodIn wsX3_at (wsV RX3 105 RX3 yX3_isPost wsX3_isPost) := goodIn_app (goodIn_of _ (by decide +kernel)) ggX3_at_X3_isPost
theorem dX3_at_0 : decode cX3_at 0 = .ok (.aload_n 0, 1) := by decide +kernel
theorem dX3_at_1 : decode cX3_at 1 = .ok (.iload_n 1, 1) := by decide +kernel
theorem dX3_at_2 : decode cX3_at 2 = .ok (.invokevirtual 105, 3) := by decide +kernel
theorem dX3_at_5 : decode cX3_at 5 = .ok (.ifCond .eq 12, 3) := by decide +kernel
theorem dX3_at_8 : decode cX3_at 8 = .ok (.aload_n 0, 1) := by decide +kernel
theorem dX3_at_9 : decode cX3_at 9 = .ok (.getfield 27, 3) := by decide +kernel
theorem dX3_at_12 : decode cX3_at 12 = .ok (.iload_n 1, 1) := by decide +kernel
theorem dX3_at_13 : decode cX3_at 13 = .ok (.iaload, 1) := by decide +kernel
theorem dX3_at_14 : decode cX3_at 14 = .ok (.goto 4, 3) := by decide +kernel
theorem dX3_at_17 : decode cX3_at 17 = .ok (.iconst (-1), 1) := by decide +kernel
theorem dX3_at_18 : decode cX3_at 18 = .ok (.ireturn, 1) := by decide +kernel
set_option maxRecDepth 20000 in
theorem ggX3_isFault_X3_place : GoodIn wsX3_isFault wsX3_place := goodIn_r _ [7, 8, 9, 10, 11, 12, 13, 14, 15, 16, 17] (by decide +kernel) (by decide +kernel)
set_option maxRecDepth 20000 in
theorem gX3_isFault_X3_place : GoodIn wsX3_isFault (wsV RX3 108 RX3 yX3_place wsX3_place) := goodIn_app (goodIn_of _ (by decide +kernel)) ggX3_isFault_X3_place
theorem dX3_isFault_0 : decode cX3_isFault 0 = .ok (.aload_n 0, 1) := by decide +kernel
theorem dX3_isFault_1 : decode cX3_isFault 1 = .ok (.getfield 7, 3) := by decide +kernel
theorem dX3_isFault_4 : decode cX3_isFault 4 = .ok (.bipush 6, 2) := by decide +kernel
theorem dX3_isFault_6 : decode cX3_isFault 6 = .ok (.aload_n 0, 1) := by decide +kernel
theorem dX3_isFault_7 : decode cX3_isFault 7 = .ok (.getfield 27, 3) := by decide +kernel
theorem dX3_isFault_10 : decode cX3_isFault 10 = .ok (.iload_n 1, 1) := by decide +kernel
theorem dX3_isFault_11 : decode cX3_isFault 11 = .ok (.iaload, 1) := by decide +kernel
theorem dX3_isFault_12 : decode cX3_isFault 12 = .ok (.imul, 1) := by decide +kernel
theorem dX3_isFault_13 : decode cX3_isFault 13 = .ok (.aload_n 0, 1) := by decide +kernel
theorem dX3_isFault_14 : decode cX3_isFault 14 = .ok (.getfield 27, 3) := by decide +kernel
theorem dX3_isFault_17 : decode cX3_isFault 17 = .ok (.aload_n 0, 1) := by decide +kernel
theorem dX3_isFault_18 : decode cX3_isFault 18 = .ok (.iload_n 1, 1) := by decide +kernel
theorem dX3_isFault_19 : decode cX3_isFault 19 = .ok (.iconst 1, 1) := by decide +kernel
theorem dX3_isFault_20 : decode cX3_isFault 20 = .ok (.iadd, 1) := by decide +kernel
theorem dX3_isFault_21 : decode cX3_isFault 21 = .ok (.invokevirtual 108, 3) := by decide +kernel
theorem dX3_isFault_24 : decode cX3_isFault 24 = .ok (.iaload, 1) := by decide +kernel
theorem dX3_isFault_25 : decode cX3_isFault 25 = .ok (.iadd, 1) := by decide +kernel
theorem dX3_isFault_26 : decode cX3_isFault 26 = .ok (.baload, 1) := by decide +kernel
theorem dX3_isFault_27 : decode cX3_isFault 27 = .ok (.ifCond .ne 7, 3) := by decide +kernel
theorem dX3_isFault_30 : decode cX3_isFault 30 = .ok (.iconst 1, 1) := by decide +kernel
theorem dX3_isFault_31 : decode cX3_isFault 31 = .ok (.goto 4, 3) := by decide +kernel
theorem dX3_isFault_34 : decode cX3_isFault 34 = .ok (.iconst 0, 1) := by decide +kernel
theorem dX3_isFault_35 : decode cX3_isFault 35 = .ok (.ireturn, 1) := by decide +kernel
set_option maxRecDepth 20000 in
theorem ggX3_faults_X3_isFault : GoodIn wsX3_faults wsX3_isFault := goodIn_r _ [6, 7, 8, 9, 10, 11, 5, 12, 1, 13, 14, 15, 16, 17, 18, 19, 20, 21] (by decide +kernel) (by decide +kernel)
set_option maxRecDepth 20000 in
theorem gX3_faults_X3_isFault : GoodIn wsX3_faults (wsV RX3 111 RX3 yX3_isFault wsX3_isFault) := goodIn_app (goodIn_of _ (by decide +kernel)) ggX3_faults_X3_isFault
theorem dX3_faults_0 : decode cX3_faults 0 = .ok (.iconst 0, 1) := by decide +kernel
theorem dX3_faults_1 : decode cX3_faults 1 = .ok (.istore_n 1, 1) := by decide +kernel
theorem dX3_faults_2 : decode cX3_faults 2 = .ok (.iconst 0, 1) := by decide +kernel
theorem dX3_faults_3 : decode cX3_faults 3 = .ok (.istore_n 2, 1) := by decide +kernel
theorem dX3_faults_4 : decode cX3_faults 4 = .ok (.iload_n 2, 1) := by decide +kernel
theorem dX3_faults_5 : decode cX3_faults 5 = .ok (.aload_n 0, 1) := by decide +kernel
theorem dX3_faults_6 : decode cX3_faults 6 = .ok (.getfield 102, 3) := by decide +kernel
theorem dX3_faults_9 : decode cX3_faults 9 = .ok (.if_icmp .ge 25, 3) := by decide +kernel
theorem dX3_faults_12 : decode cX3_faults 12 = .ok (.iload_n 1, 1) := by decide +kernel
theorem dX3_faults_13 : decode cX3_faults 13 = .ok (.aload_n 0, 1) := by decide +kernel
theorem dX3_faults_14 : decode cX3_faults 14 = .ok (.iload_n 2, 1) := by decide +kernel
theorem dX3_faults_15 : decode cX3_faults 15 = .ok (.invokevirtual 111, 3) := by decide +kernel
theorem dX3_faults_18 : decode cX3_faults 18 = .ok (.ifCond .eq 7, 3) := by decide +kernel
theorem dX3_faults_21 : decode cX3_faults 21 = .ok (.iconst 1, 1) := by decide +kernel
theorem dX3_faults_22 : decode cX3_faults 22 = .ok (.goto 4, 3) := by decide +kernel
theorem dX3_faults_25 : decode cX3_faults 25 = .ok (.iconst 0, 1) := by decide +kernel
theorem dX3_faults_26 : decode cX3_faults 26 = .ok (.iadd, 1) := by decide +kernel
theorem dX3_faults_27 : decode cX3_faults 27 = .ok (.istore_n 1, 1) := by decide +kernel
theorem dX3_faults_28 : decode cX3_faults 28 = .ok (.iinc 2 1, 3) := by decide +kernel
theorem dX3_faults_31 : decode cX3_faults 31 = .ok (.goto (-27), 3) := by decide +kernel
theorem dX3_faults_34 : decode cX3_faults 34 = .ok (.iload_n 1, 1) := by decide +kernel
theorem dX3_faults_35 : decode cX3_faults 35 = .ok (.ireturn, 1) := by decide +kernel
set_option maxRecDepth 20000 in
theorem ggX3_fault_X3_isPost : GoodIn wsX3_fault wsX3_isPost := goodIn_r _ [6, 1, 7, 8, 5, 9, 20, 21, 22, 23, 24, 25, 26, 27, 28] (by decide +kernel) (by decide +kernel)
set_option maxRecDepth 20000 in
theorem gX3_fault_X3_isPost : GoodIn wsX3_fault (wsV RX3 105 RX3 yX3_isPost wsX3_isPost) := goodIn_app (goodIn_of _ (by decide +kernel)) ggX3_fault_X3_isPost
set_option maxRecDepth 20000 in
theorem ggX3_fault_X3_place : GoodIn wsX3_fault wsX3_place := goodIn_r _ [13, 1, 20, 21, 22, 23, 24, 25, 26, 27, 28] (by decide +kernel) (by decide +kernel)
set_option maxRecDepth 20000 in
theorem gX3_fault_X3_place : GoodIn wsX3_fault (wsV RX3 108 RX3 yX3_place wsX3_place) := goodIn_app (goodIn_of _ (by decide +kernel)) ggX3_fault_X3_place
set_option maxRecDepth 20000 in
theorem ggX3_fault_X3_isFault : GoodIn wsX3_fault wsX3_isFault := goodIn_r _ [17, 18, 19, 10, 11, 12, 5, 13, 1, 20, 21, 22, 23, 24, 25, 26, 27, 28] (by decide +kernel) (by decide +kernel)
set_option maxRecDepth 20000 in
theorem gX3_fault_X3_isFault : GoodIn wsX3_fault (wsV RX3 111 RX3 yX3_isFault wsX3_isFault) := goodIn_app (goodIn_of _ (by decide +kernel)) ggX3_fault_X3_isFault
theorem dX3_fault_0 : decode cX3_fault 0 = .ok (.aload_n 0, 1) := by decide +kernel
theorem dX3_fault_1 : decode cX3_fault 1 = .ok (.iload_n 1, 1) := by decide +kernel
theorem dX3_fault_2 : decode cX3_fault 2 = .ok (.invokevirtual 105, 3) := by decide +kernel
theorem dX3_fault_5 : decode cX3_fault 5 = .ok (.ifCond .ne 5, 3) := by decide +kernel
theorem dX3_fault_8 : decode cX3_fault 8 = .ok (.iconst (-1), 1) := by decide +kernel
theorem dX3_fault_9 : decode cX3_fault 9 = .ok (.ireturn, 1) := by decide +kernel
theorem dX3_fault_10 : decode cX3_fault 10 = .ok (.iconst 0, 1) := by decide +kernel
theorem dX3_fault_11 : decode cX3_fault 11 = .ok (.istore_n 2, 1) := by decide +kernel
theorem dX3_fault_12 : decode cX3_fault 12 = .ok (.iload_n 2, 1) := by decide +kernel
theorem dX3_fault_13 : decode cX3_fault 13 = .ok (.aload_n 0, 1) := by decide +kernel
theorem dX3_fault_14 : decode cX3_fault 14 = .ok (.getfield 102, 3) := by decide +kernel
theorem dX3_fault_17 : decode cX3_fault 17 = .ok (.if_icmp .ge 31, 3) := by decide +kernel
theorem dX3_fault_20 : decode cX3_fault 20 = .ok (.aload_n 0, 1) := by decide +kernel
theorem dX3_fault_21 : decode cX3_fault 21 = .ok (.aload_n 0, 1) := by decide +kernel
theorem dX3_fault_22 : decode cX3_fault 22 = .ok (.iload_n 1, 1) := by decide +kernel
theorem dX3_fault_23 : decode cX3_fault 23 = .ok (.iload_n 2, 1) := by decide +kernel
theorem dX3_fault_24 : decode cX3_fault 24 = .ok (.iadd, 1) := by decide +kernel
theorem dX3_fault_25 : decode cX3_fault 25 = .ok (.invokevirtual 108, 3) := by decide +kernel
theorem dX3_fault_28 : decode cX3_fault 28 = .ok (.invokevirtual 111, 3) := by decide +kernel
theorem dX3_fault_31 : decode cX3_fault 31 = .ok (.ifCond .eq 11, 3) := by decide +kernel
theorem dX3_fault_34 : decode cX3_fault 34 = .ok (.aload_n 0, 1) := by decide +kernel
theorem dX3_fault_35 : decode cX3_fault 35 = .ok (.iload_n 1, 1) := by decide +kernel
theorem dX3_fault_36 : decode cX3_fault 36 = .ok (.iload_n 2, 1) := by decide +kernel
theorem dX3_fault_37 : decode cX3_fault 37 = .ok (.iadd, 1) := by decide +kernel
theorem dX3_fault_38 : decode cX3_fault 38 = .ok (.invokevirtual 108, 3) := by decide +kernel
theorem dX3_fault_41 : decode cX3_fault 41 = .ok (.ireturn, 1) := by decide +kernel
theorem dX3_fault_42 : decode cX3_fault 42 = .ok (.iinc 2 1, 3) := by decide +kernel
theorem dX3_fault_45 : decode cX3_fault 45 = .ok (.goto (-33), 3) := by decide +kernel
theorem dX3_fault_48 : decode cX3_fault 48 = .ok (.bipush (-9), 2) := by decide +kernel
theorem dX3_fault_50 : decode cX3_fault 50 = .ok (.ireturn, 1) := by decide +kernel
set_option maxRecDepth 20000 in
theorem ggX3_layBetween_X3_layRing : GoodIn wsX3_layBetween wsX3_layRing := goodIn_r _ [8, 9, 3, 10, 11, 12, 7, 13, 14, 15, 16, 17, 18, 19, 20, 21, 22, 23, 24, 29, 30, 31, 32, 33, 34, 35, 36, 37] (by decide +kernel) (by decide +kernel)
set_option maxRecDepth 20000 in
theorem gX3_layBetween_X3_layRing : GoodIn wsX3_layBetween (wsV RX3 81 RX3 yX3_layRing wsX3_layRing) := goodIn_app (goodIn_of _ (by decide +kernel)) ggX3_layBetween_X3_layRing
set_option maxRecDepth 20000 in
theorem ggX3_layBetween_X3_place : GoodIn wsX3_layBetween wsX3_place := goodIn_r _ [28, 1, 29, 30, 31, 32, 33, 34, 35, 36, 37] (by decide +kernel) (by decide +kernel)
set_option maxRecDepth 20000 in
theorem gX3_layBetween_X3_place : GoodIn wsX3_layBetween (wsV RX3 108 RX3 yX3_place wsX3_place) := goodIn_app (goodIn_of _ (by decide +kernel)) ggX3_layBetween_X3_place
set_option maxRecDepth 20000 in
theorem ggX3_layBetween_X3_next : GoodIn wsX3_layBetween wsX3_next := goodIn_r _ [24, 9, 15, 17, 18, 19, 7, 20, 14, 29, 30, 31, 32, 33, 34, 35, 36, 37] (by decide +kernel) (by decide +kernel)
set_option maxRecDepth 20000 in
theorem gX3_layBetween_X3_next : GoodIn wsX3_layBetween (wsV RX3 77 RX3 yX3_next wsX3_next) := goodIn_app (goodIn_of _ (by decide +kernel)) ggX3_layBetween_X3_next
theorem dX3_layBetween_0 : decode cX3_layBetween 0 = .ok (.iconst 2, 1) := by decide +kernel
theorem dX3_layBetween_1 : decode cX3_layBetween 1 = .ok (.iload_n 2, 1) := by decide +kernel
theorem dX3_layBetween_2 : decode cX3_layBetween 2 = .ok (.imul, 1) := by decide +kernel
theorem dX3_layBetween_3 : decode cX3_layBetween 3 = .ok (.iconst 1, 1) := by decide +kernel
theorem dX3_layBetween_4 : decode cX3_layBetween 4 = .ok (.iadd, 1) := by decide +kernel
theorem dX3_layBetween_5 : decode cX3_layBetween 5 = .ok (.istore_n 3, 1) := by decide +kernel
theorem dX3_layBetween_6 : decode cX3_layBetween 6 = .ok (.iload_n 3, 1) := by decide +kernel
theorem dX3_layBetween_7 : decode cX3_layBetween 7 = .ok (.aload_n 0, 1) := by decide +kernel
theorem dX3_layBetween_8 : decode cX3_layBetween 8 = .ok (.getfield 102, 3) := by decide +kernel
theorem dX3_layBetween_11 : decode cX3_layBetween 11 = .ok (.if_icmp .ne 9, 3) := by decide +kernel
theorem dX3_layBetween_14 : decode cX3_layBetween 14 = .ok (.aload_n 0, 1) := by decide +kernel
theorem dX3_layBetween_15 : decode cX3_layBetween 15 = .ok (.iload_n 3, 1) := by decide +kernel
theorem dX3_layBetween_16 : decode cX3_layBetween 16 = .ok (.invokevirtual 81, 3) := by decide +kernel
theorem dX3_layBetween_19 : decode cX3_layBetween 19 = .ok (.ireturn, 1) := by decide +kernel
theorem dX3_layBetween_20 : decode cX3_layBetween 20 = .ok (.aload_n 0, 1) := by decide +kernel
theorem dX3_layBetween_21 : decode cX3_layBetween 21 = .ok (.getfield 27, 3) := by decide +kernel
theorem dX3_layBetween_24 : decode cX3_layBetween 24 = .ok (.aload_n 0, 1) := by decide +kernel
theorem dX3_layBetween_25 : decode cX3_layBetween 25 = .ok (.iload_n 1, 1) := by decide +kernel
theorem dX3_layBetween_26 : decode cX3_layBetween 26 = .ok (.iload_n 2, 1) := by decide +kernel
theorem dX3_layBetween_27 : decode cX3_layBetween 27 = .ok (.isub, 1) := by decide +kernel
theorem dX3_layBetween_28 : decode cX3_layBetween 28 = .ok (.iconst 1, 1) := by decide +kernel
theorem dX3_layBetween_29 : decode cX3_layBetween 29 = .ok (.isub, 1) := by decide +kernel
theorem dX3_layBetween_30 : decode cX3_layBetween 30 = .ok (.invokevirtual 108, 3) := by decide +kernel
theorem dX3_layBetween_33 : decode cX3_layBetween 33 = .ok (.iaload, 1) := by decide +kernel
theorem dX3_layBetween_34 : decode cX3_layBetween 34 = .ok (.istore 4, 2) := by decide +kernel
theorem dX3_layBetween_36 : decode cX3_layBetween 36 = .ok (.aload_n 0, 1) := by decide +kernel
theorem dX3_layBetween_37 : decode cX3_layBetween 37 = .ok (.getfield 27, 3) := by decide +kernel
theorem dX3_layBetween_40 : decode cX3_layBetween 40 = .ok (.aload_n 0, 1) := by decide +kernel
theorem dX3_layBetween_41 : decode cX3_layBetween 41 = .ok (.iload_n 1, 1) := by decide +kernel
theorem dX3_layBetween_42 : decode cX3_layBetween 42 = .ok (.iload_n 2, 1) := by decide +kernel
theorem dX3_layBetween_43 : decode cX3_layBetween 43 = .ok (.iadd, 1) := by decide +kernel
theorem dX3_layBetween_44 : decode cX3_layBetween 44 = .ok (.iconst 1, 1) := by decide +kernel
theorem dX3_layBetween_45 : decode cX3_layBetween 45 = .ok (.iadd, 1) := by decide +kernel
theorem dX3_layBetween_46 : decode cX3_layBetween 46 = .ok (.invokevirtual 108, 3) := by decide +kernel
theorem dX3_layBetween_49 : decode cX3_layBetween 49 = .ok (.iaload, 1) := by decide +kernel
theorem dX3_layBetween_50 : decode cX3_layBetween 50 = .ok (.istore 5, 2) := by decide +kernel
theorem dX3_layBetween_52 : decode cX3_layBetween 52 = .ok (.iconst 0, 1) := by decide +kernel
theorem dX3_layBetween_53 : decode cX3_layBetween 53 = .ok (.istore 6, 2) := by decide +kernel
theorem dX3_layBetween_55 : decode cX3_layBetween 55 = .ok (.iload 6, 2) := by decide +kernel
theorem dX3_layBetween_57 : decode cX3_layBetween 57 = .ok (.iload_n 3, 1) := by decide +kernel
theorem dX3_layBetween_58 : decode cX3_layBetween 58 = .ok (.if_icmp .ge 58, 3) := by decide +kernel
theorem dX3_layBetween_61 : decode cX3_layBetween 61 = .ok (.aload_n 0, 1) := by decide +kernel
theorem dX3_layBetween_62 : decode cX3_layBetween 62 = .ok (.iload 6, 2) := by decide +kernel
theorem dX3_layBetween_64 : decode cX3_layBetween 64 = .ok (.ifCond .ne 8, 3) := by decide +kernel
theorem dX3_layBetween_67 : decode cX3_layBetween 67 = .ok (.iload 4, 2) := by decide +kernel
theorem dX3_layBetween_69 : decode cX3_layBetween 69 = .ok (.goto 12, 3) := by decide +kernel
theorem dX3_layBetween_72 : decode cX3_layBetween 72 = .ok (.aload_n 0, 1) := by decide +kernel
theorem dX3_layBetween_73 : decode cX3_layBetween 73 = .ok (.getfield 23, 3) := by decide +kernel
theorem dX3_layBetween_76 : decode cX3_layBetween 76 = .ok (.iload 6, 2) := by decide +kernel
theorem dX3_layBetween_78 : decode cX3_layBetween 78 = .ok (.iconst 1, 1) := by decide +kernel
theorem dX3_layBetween_79 : decode cX3_layBetween 79 = .ok (.isub, 1) := by decide +kernel
theorem dX3_layBetween_80 : decode cX3_layBetween 80 = .ok (.iaload, 1) := by decide +kernel
theorem dX3_layBetween_81 : decode cX3_layBetween 81 = .ok (.iload_n 3, 1) := by decide +kernel
theorem dX3_layBetween_82 : decode cX3_layBetween 82 = .ok (.iload 6, 2) := by decide +kernel
theorem dX3_layBetween_84 : decode cX3_layBetween 84 = .ok (.isub, 1) := by decide +kernel
theorem dX3_layBetween_85 : decode cX3_layBetween 85 = .ok (.iload 5, 2) := by decide +kernel
theorem dX3_layBetween_87 : decode cX3_layBetween 87 = .ok (.invokevirtual 77, 3) := by decide +kernel
theorem dX3_layBetween_90 : decode cX3_layBetween 90 = .ok (.istore 7, 2) := by decide +kernel
theorem dX3_layBetween_92 : decode cX3_layBetween 92 = .ok (.iload 7, 2) := by decide +kernel
theorem dX3_layBetween_94 : decode cX3_layBetween 94 = .ok (.bipush (-9), 2) := by decide +kernel
theorem dX3_layBetween_96 : decode cX3_layBetween 96 = .ok (.if_icmp .ne 5, 3) := by decide +kernel
theorem dX3_layBetween_99 : decode cX3_layBetween 99 = .ok (.iconst 0, 1) := by decide +kernel
theorem dX3_layBetween_100 : decode cX3_layBetween 100 = .ok (.ireturn, 1) := by decide +kernel
theorem dX3_layBetween_101 : decode cX3_layBetween 101 = .ok (.aload_n 0, 1) := by decide +kernel
theorem dX3_layBetween_102 : decode cX3_layBetween 102 = .ok (.getfield 23, 3) := by decide +kernel
theorem dX3_layBetween_105 : decode cX3_layBetween 105 = .ok (.iload 6, 2) := by decide +kernel
theorem dX3_layBetween_107 : decode cX3_layBetween 107 = .ok (.iload 7, 2) := by decide +kernel
theorem dX3_layBetween_109 : decode cX3_layBetween 109 = .ok (.iastore, 1) := by decide +kernel
theorem dX3_layBetween_110 : decode cX3_layBetween 110 = .ok (.iinc 6 1, 3) := by decide +kernel
theorem dX3_layBetween_113 : decode cX3_layBetween 113 = .ok (.goto (-58), 3) := by decide +kernel
theorem dX3_layBetween_116 : decode cX3_layBetween 116 = .ok (.iconst 1, 1) := by decide +kernel
theorem dX3_layBetween_117 : decode cX3_layBetween 117 = .ok (.ireturn, 1) := by decide +kernel
