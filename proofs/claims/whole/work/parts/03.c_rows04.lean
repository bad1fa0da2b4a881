set_option maxRecDepth 20000 in
theorem ggX2_walks_X1_has : GoodIn wsX2_walks wsX1_has := goodIn_r _ [8, 9, 44, 45, 46, 47, 48, 49] (by decide +kernel) (by decide +kernel)
set_option maxRecDepth 20000 in
theorem gX2_walks_X1_has : GoodIn wsX2_walks (wsV RX2 35 RX1 yX1_has wsX1_has) := goodIn_app (goodIn_of _ (by decide +kernel)) ggX2_walks_X1_has
set_option maxRecDepth 20000 in
theorem ggX2_walks_X1_walkCount : GoodIn wsX2_walks wsX1_walkCount := goodIn_r _ [13, 14, 15, 5, 6, 7, 8, 9, 16, 17, 18, 19, 20, 21, 22, 23, 24, 25, 26, 27, 28, 29, 30, 31, 32, 33, 34, 35, 36, 37, 38, 39, 40, 41, 44, 45, 46, 47, 48, 49] (by decide +kernel) (by decide +kernel)
set_option maxRecDepth 20000 in
theorem gX2_walks_X1_walkCount : GoodIn wsX2_walks (wsV RX2 69 RX1 yX1_walkCount wsX1_walkCount) := goodIn_app (goodIn_of _ (by decide +kernel)) ggX2_walks_X1_walkCount
theorem dX2_walks_0 : decode cX2_walks 0 = .ok (.aload_n 0, 1) := by decide +kernel
theorem dX2_walks_1 : decode cX2_walks 1 = .ok (.getfield 12, 3) := by decide +kernel
theorem dX2_walks_4 : decode cX2_walks 4 = .ok (.iload_n 1, 1) := by decide +kernel
theorem dX2_walks_5 : decode cX2_walks 5 = .ok (.invokevirtual 35, 3) := by decide +kernel
theorem dX2_walks_8 : decode cX2_walks 8 = .ok (.ifCond .eq 14, 3) := by decide +kernel
theorem dX2_walks_11 : decode cX2_walks 11 = .ok (.aload_n 0, 1) := by decide +kernel
theorem dX2_walks_12 : decode cX2_walks 12 = .ok (.getfield 12, 3) := by decide +kernel
theorem dX2_walks_15 : decode cX2_walks 15 = .ok (.iload_n 2, 1) := by decide +kernel
theorem dX2_walks_16 : decode cX2_walks 16 = .ok (.invokevirtual 35, 3) := by decide +kernel
theorem dX2_walks_19 : decode cX2_walks 19 = .ok (.ifCond .ne 7, 3) := by decide +kernel
theorem dX2_walks_22 : decode cX2_walks 22 = .ok (.ldc2_w 67, 3) := by decide +kernel
theorem dX2_walks_25 : decode cX2_walks 25 = .ok (.lreturn, 1) := by decide +kernel
theorem dX2_walks_26 : decode cX2_walks 26 = .ok (.iload_n 3, 1) := by decide +kernel
theorem dX2_walks_27 : decode cX2_walks 27 = .ok (.ifCond .lt 9, 3) := by decide +kernel
theorem dX2_walks_30 : decode cX2_walks 30 = .ok (.iload_n 3, 1) := by decide +kernel
theorem dX2_walks_31 : decode cX2_walks 31 = .ok (.bipush 60, 2) := by decide +kernel
theorem dX2_walks_33 : decode cX2_walks 33 = .ok (.if_icmp .le 7, 3) := by decide +kernel
theorem dX2_walks_36 : decode cX2_walks 36 = .ok (.ldc2_w 54, 3) := by decide +kernel
theorem dX2_walks_39 : decode cX2_walks 39 = .ok (.lreturn, 1) := by decide +kernel
theorem dX2_walks_40 : decode cX2_walks 40 = .ok (.aload_n 0, 1) := by decide +kernel
theorem dX2_walks_41 : decode cX2_walks 41 = .ok (.getfield 12, 3) := by decide +kernel
theorem dX2_walks_44 : decode cX2_walks 44 = .ok (.iload_n 1, 1) := by decide +kernel
theorem dX2_walks_45 : decode cX2_walks 45 = .ok (.iload_n 2, 1) := by decide +kernel
theorem dX2_walks_46 : decode cX2_walks 46 = .ok (.iload_n 3, 1) := by decide +kernel
theorem dX2_walks_47 : decode cX2_walks 47 = .ok (.invokevirtual 69, 3) := by decide +kernel
theorem dX2_walks_50 : decode cX2_walks 50 = .ok (.lreturn, 1) := by decide +kernel
set_option maxRecDepth 20000 in
theorem ggX2_blocks_X1_leastOfBlock : GoodIn wsX2_blocks wsX1_leastOfBlock := goodIn_r _ [7, 8, 9, 10, 6, 11, 12, 13, 14, 15, 16, 19, 20, 21, 22, 23, 24] (by decide +kernel) (by decide +kernel)
set_option maxRecDepth 20000 in
theorem gX2_blocks_X1_leastOfBlock : GoodIn wsX2_blocks (wsV RX2 73 RX1 yX1_leastOfBlock wsX1_leastOfBlock) := goodIn_app (goodIn_of _ (by decide +kernel)) ggX2_blocks_X1_leastOfBlock
theorem dX2_blocks_0 : decode cX2_blocks 0 = .ok (.iconst 0, 1) := by decide +kernel
theorem dX2_blocks_1 : decode cX2_blocks 1 = .ok (.istore_n 1, 1) := by decide +kernel
theorem dX2_blocks_2 : decode cX2_blocks 2 = .ok (.iconst 0, 1) := by decide +kernel
theorem dX2_blocks_3 : decode cX2_blocks 3 = .ok (.istore_n 2, 1) := by decide +kernel
theorem dX2_blocks_4 : decode cX2_blocks 4 = .ok (.iload_n 2, 1) := by decide +kernel
theorem dX2_blocks_5 : decode cX2_blocks 5 = .ok (.aload_n 0, 1) := by decide +kernel
theorem dX2_blocks_6 : decode cX2_blocks 6 = .ok (.getfield 12, 3) := by decide +kernel
theorem dX2_blocks_9 : decode cX2_blocks 9 = .ok (.getfield 25, 3) := by decide +kernel
theorem dX2_blocks_12 : decode cX2_blocks 12 = .ok (.if_icmp .ge 24, 3) := by decide +kernel
theorem dX2_blocks_15 : decode cX2_blocks 15 = .ok (.aload_n 0, 1) := by decide +kernel
theorem dX2_blocks_16 : decode cX2_blocks 16 = .ok (.getfield 12, 3) := by decide +kernel
theorem dX2_blocks_19 : decode cX2_blocks 19 = .ok (.iload_n 2, 1) := by decide +kernel
theorem dX2_blocks_20 : decode cX2_blocks 20 = .ok (.invokevirtual 73, 3) := by decide +kernel
theorem dX2_blocks_23 : decode cX2_blocks 23 = .ok (.iload_n 2, 1) := by decide +kernel
theorem dX2_blocks_24 : decode cX2_blocks 24 = .ok (.if_icmp .ne 6, 3) := by decide +kernel
theorem dX2_blocks_27 : decode cX2_blocks 27 = .ok (.iinc 1 1, 3) := by decide +kernel
theorem dX2_blocks_30 : decode cX2_blocks 30 = .ok (.iinc 2 1, 3) := by decide +kernel
theorem dX2_blocks_33 : decode cX2_blocks 33 = .ok (.goto (-29), 3) := by decide +kernel
theorem dX2_blocks_36 : decode cX2_blocks 36 = .ok (.iload_n 1, 1) := by decide +kernel
theorem dX2_blocks_37 : decode cX2_blocks 37 = .ok (.ireturn, 1) := by decide +kernel
set_option maxRecDepth 20000 in
theorem ggX2_block_X1_has : GoodIn wsX2_block wsX1_has := goodIn_r _ [6, 7, 22, 23, 24, 25, 26, 27] (by decide +kernel) (by decide +kernel)
set_option maxRecDepth 20000 in
theorem gX2_block_X1_has : GoodIn wsX2_block (wsV RX2 35 RX1 yX1_has wsX1_has) := goodIn_app (goodIn_of _ (by decide +kernel)) ggX2_block_X1_has
set_option maxRecDepth 20000 in
theorem ggX2_block_X1_leastOfBlock : GoodIn wsX2_block wsX1_leastOfBlock := goodIn_r _ [11, 12, 13, 14, 5, 15, 7, 16, 17, 18, 19, 22, 23, 24, 25, 26, 27] (by decide +kernel) (by decide +kernel)
set_option maxRecDepth 20000 in
theorem gX2_block_X1_leastOfBlock : GoodIn wsX2_block (wsV RX2 73 RX1 yX1_leastOfBlock wsX1_leastOfBlock) := goodIn_app (goodIn_of _ (by decide +kernel)) ggX2_block_X1_leastOfBlock
theorem dX2_block_0 : decode cX2_block 0 = .ok (.aload_n 0, 1) := by decide +kernel
theorem dX2_block_1 : decode cX2_block 1 = .ok (.getfield 12, 3) := by decide +kernel
theorem dX2_block_4 : decode cX2_block 4 = .ok (.iload_n 1, 1) := by decide +kernel
theorem dX2_block_5 : decode cX2_block 5 = .ok (.invokevirtual 35, 3) := by decide +kernel
theorem dX2_block_8 : decode cX2_block 8 = .ok (.ifCond .eq 14, 3) := by decide +kernel
theorem dX2_block_11 : decode cX2_block 11 = .ok (.aload_n 0, 1) := by decide +kernel
theorem dX2_block_12 : decode cX2_block 12 = .ok (.getfield 12, 3) := by decide +kernel
theorem dX2_block_15 : decode cX2_block 15 = .ok (.iload_n 1, 1) := by decide +kernel
theorem dX2_block_16 : decode cX2_block 16 = .ok (.invokevirtual 73, 3) := by decide +kernel
theorem dX2_block_19 : decode cX2_block 19 = .ok (.goto 4, 3) := by decide +kernel
theorem dX2_block_22 : decode cX2_block 22 = .ok (.iconst (-1), 1) := by decide +kernel
theorem dX2_block_23 : decode cX2_block 23 = .ok (.ireturn, 1) := by decide +kernel
set_option maxRecDepth 20000 in
theorem ggX2_pace_X1_has : GoodIn wsX2_pace wsX1_has := goodIn_r _ [6, 7, 31, 32, 33, 34, 35, 36] (by decide +kernel) (by decide +kernel)
set_option maxRecDepth 20000 in
theorem gX2_pace_X1_has : GoodIn wsX2_pace (wsV RX2 35 RX1 yX1_has wsX1_has) := goodIn_app (goodIn_of _ (by decide +kernel)) ggX2_pace_X1_has
set_option maxRecDepth 20000 in
theorem ggX2_pace_X1_paceOf : GoodIn wsX2_pace wsX1_paceOf := goodIn_r _ [11, 12, 7, 13, 14, 15, 5, 16, 17, 18, 19, 20, 21, 22, 23, 24, 25, 26, 27, 28, 31, 32, 33, 34, 35, 36] (by decide +kernel) (by decide +kernel)
set_option maxRecDepth 20000 in
theorem gX2_pace_X1_paceOf : GoodIn wsX2_pace (wsV RX2 77 RX1 yX1_paceOf wsX1_paceOf) := goodIn_app (goodIn_of _ (by decide +kernel)) ggX2_pace_X1_paceOf
theorem dX2_pace_0 : decode cX2_pace 0 = .ok (.aload_n 0, 1) := by decide +kernel
theorem dX2_pace_1 : decode cX2_pace 1 = .ok (.getfield 12, 3) := by decide +kernel
theorem dX2_pace_4 : decode cX2_pace 4 = .ok (.iload_n 1, 1) := by decide +kernel
theorem dX2_pace_5 : decode cX2_pace 5 = .ok (.invokevirtual 35, 3) := by decide +kernel
theorem dX2_pace_8 : decode cX2_pace 8 = .ok (.ifCond .eq 14, 3) := by decide +kernel
theorem dX2_pace_11 : decode cX2_pace 11 = .ok (.aload_n 0, 1) := by decide +kernel
theorem dX2_pace_12 : decode cX2_pace 12 = .ok (.getfield 12, 3) := by decide +kernel
theorem dX2_pace_15 : decode cX2_pace 15 = .ok (.iload_n 1, 1) := by decide +kernel
theorem dX2_pace_16 : decode cX2_pace 16 = .ok (.invokevirtual 77, 3) := by decide +kernel
theorem dX2_pace_19 : decode cX2_pace 19 = .ok (.goto 4, 3) := by decide +kernel
theorem dX2_pace_22 : decode cX2_pace 22 = .ok (.iconst (-1), 1) := by decide +kernel
theorem dX2_pace_23 : decode cX2_pace 23 = .ok (.ireturn, 1) := by decide +kernel
set_option maxRecDepth 20000 in
theorem ggX2_kind_X1_kindOfTask : GoodIn wsX2_kind wsX1_kindOfTask := goodIn_r _ [6, 7, 8, 9, 10, 11, 5, 12, 13, 14, 15, 16, 17, 18, 19, 20, 21, 22, 23, 24, 25, 26, 27, 28, 29, 30, 31, 32, 33, 34, 35, 36, 37, 40, 41, 42, 43, 44, 45] (by decide +kernel) (by decide +kernel)
set_option maxRecDepth 20000 in
theorem gX2_kind_X1_kindOfTask : GoodIn wsX2_kind (wsV RX2 80 RX1 yX1_kindOfTask wsX1_kindOfTask) := goodIn_app (goodIn_of _ (by decide +kernel)) ggX2_kind_X1_kindOfTask
theorem dX2_kind_0 : decode cX2_kind 0 = .ok (.aload_n 0, 1) := by decide +kernel
theorem dX2_kind_1 : decode cX2_kind 1 = .ok (.getfield 12, 3) := by decide +kernel
theorem dX2_kind_4 : decode cX2_kind 4 = .ok (.invokevirtual 80, 3) := by decide +kernel
theorem dX2_kind_7 : decode cX2_kind 7 = .ok (.ireturn, 1) := by decide +kernel
set_option maxRecDepth 20000 in
theorem ggX2_sure_X1_hasPaceOne : GoodIn wsX2_sure wsX1_hasPaceOne := goodIn_r _ [10, 11, 12, 13, 14, 9, 15, 16, 17, 18, 19, 20, 21, 22, 23, 24, 25, 26, 27, 28, 29, 30, 31, 32, 43, 44, 45, 46, 47, 48] (by decide +kernel) (by decide +kernel)
set_option maxRecDepth 20000 in
theorem gX2_sure_X1_hasPaceOne : GoodIn wsX2_sure (wsV RX2 84 RX1 yX1_hasPaceOne wsX1_hasPaceOne) := goodIn_app (goodIn_of _ (by decide +kernel)) ggX2_sure_X1_hasPaceOne
set_option maxRecDepth 20000 in
theorem ggX2_sure_X1_ringLengths : GoodIn wsX2_sure wsX1_ringLengths := goodIn_r _ [36, 11, 17, 18, 19, 9, 20, 21, 22, 23, 24, 25, 26, 27, 28, 29, 43, 44, 45, 46, 47, 48] (by decide +kernel) (by decide +kernel)
set_option maxRecDepth 20000 in
theorem gX2_sure_X1_ringLengths : GoodIn wsX2_sure (wsV RX2 88 RX1 yX1_ringLengths wsX1_ringLengths) := goodIn_app (goodIn_of _ (by decide +kernel)) ggX2_sure_X1_ringLengths
set_option maxRecDepth 20000 in
theorem ggX2_sure_X2_endOfGaps : GoodIn wsX2_sure wsX2_endOfGaps := goodIn_r _ [40] (by decide +kernel) (by decide +kernel)
set_option maxRecDepth 20000 in
theorem gX2_sure_X2_endOfGaps : GoodIn wsX2_sure (va_wsS RX2 92 yX2_endOfGaps wsX2_endOfGaps) := goodIn_app (goodIn_of _ (by decide +kernel)) ggX2_sure_X2_endOfGaps
theorem dX2_sure_0 : decode cX2_sure 0 = .ok (.aload_n 0, 1) := by decide +kernel
theorem dX2_sure_1 : decode cX2_sure 1 = .ok (.getfield 12, 3) := by decide +kernel
theorem dX2_sure_4 : decode cX2_sure 4 = .ok (.invokevirtual 84, 3) := by decide +kernel
theorem dX2_sure_7 : decode cX2_sure 7 = .ok (.ifCond .eq 20, 3) := by decide +kernel
theorem dX2_sure_10 : decode cX2_sure 10 = .ok (.iconst 1, 1) := by decide +kernel
theorem dX2_sure_11 : decode cX2_sure 11 = .ok (.aload_n 0, 1) := by decide +kernel
theorem dX2_sure_12 : decode cX2_sure 12 = .ok (.getfield 12, 3) := by decide +kernel
theorem dX2_sure_15 : decode cX2_sure 15 = .ok (.invokevirtual 88, 3) := by decide +kernel
theorem dX2_sure_18 : decode cX2_sure 18 = .ok (.invokestatic 92, 3) := by decide +kernel
theorem dX2_sure_21 : decode cX2_sure 21 = .ok (.invokestatic 96, 3) := by decide +kernel
theorem dX2_sure_24 : decode cX2_sure 24 = .ok (.goto 5, 3) := by decide +kernel
theorem dX2_sure_27 : decode cX2_sure 27 = .ok (.bipush (-9), 2) := by decide +kernel
theorem dX2_sure_29 : decode cX2_sure 29 = .ok (.ireturn, 1) := by decide +kernel
set_option maxRecDepth 20000 in
theorem ggX2_free_X1_has : GoodIn wsX2_free wsX1_has := goodIn_r _ [6, 7, 36, 37, 38, 39, 40, 41] (by decide +kernel) (by decide +kernel)
set_option maxRecDepth 20000 in
theorem gX2_free_X1_has : GoodIn wsX2_free (wsV RX2 35 RX1 yX1_has wsX1_has) := goodIn_app (goodIn_of _ (by decide +kernel)) ggX2_free_X1_has
set_option maxRecDepth 20000 in
theorem ggX2_free_X1_paceOf : GoodIn wsX2_free wsX1_paceOf := goodIn_r _ [11, 12, 7, 13, 14, 15, 5, 16, 17, 18, 19, 20, 21, 22, 23, 24, 25, 26, 27, 28, 36, 37, 38, 39, 40, 41] (by decide +kernel) (by decide +kernel)
set_option maxRecDepth 20000 in
theorem gX2_free_X1_paceOf : GoodIn wsX2_free (wsV RX2 77 RX1 yX1_paceOf wsX1_paceOf) := goodIn_app (goodIn_of _ (by decide +kernel)) ggX2_free_X1_paceOf
set_option maxRecDepth 20000 in
theorem ggX2_free_X1_returnLengths : GoodIn wsX2_free wsX1_returnLengths := goodIn_r _ [16, 17, 18, 19, 20, 5, 21, 7, 22, 23, 24, 25, 36, 37, 38, 39, 40, 41] (by decide +kernel) (by decide +kernel)
set_option maxRecDepth 20000 in
theorem gX2_free_X1_returnLengths : GoodIn wsX2_free (wsV RX2 102 RX1 yX1_returnLengths wsX1_returnLengths) := goodIn_app (goodIn_of _ (by decide +kernel)) ggX2_free_X1_returnLengths
set_option maxRecDepth 20000 in
theorem ggX2_free_X2_endOfGaps : GoodIn wsX2_free wsX2_endOfGaps := goodIn_r _ [33] (by decide +kernel) (by decide +kernel)
set_option maxRecDepth 20000 in
theorem gX2_free_X2_endOfGaps : GoodIn wsX2_free (va_wsS RX2 92 yX2_endOfGaps wsX2_endOfGaps) := goodIn_app (goodIn_of _ (by decide +kernel)) ggX2_free_X2_endOfGaps
theorem dX2_free_0 : decode cX2_free 0 = .ok (.aload_n 0, 1) := by decide +kernel
theorem dX2_free_1 : decode cX2_free 1 = .ok (.getfield 12, 3) := by decide +kernel
theorem dX2_free_4 : decode cX2_free 4 = .ok (.iload_n 1, 1) := by decide +kernel
theorem dX2_free_5 : decode cX2_free 5 = .ok (.invokevirtual 35, 3) := by decide +kernel
theorem dX2_free_8 : decode cX2_free 8 = .ok (.ifCond .ne 5, 3) := by decide +kernel
theorem dX2_free_11 : decode cX2_free 11 = .ok (.iconst (-1), 1) := by decide +kernel
theorem dX2_free_12 : decode cX2_free 12 = .ok (.ireturn, 1) := by decide +kernel
theorem dX2_free_13 : decode cX2_free 13 = .ok (.aload_n 0, 1) := by decide +kernel
theorem dX2_free_14 : decode cX2_free 14 = .ok (.getfield 12, 3) := by decide +kernel
theorem dX2_free_17 : decode cX2_free 17 = .ok (.iload_n 1, 1) := by decide +kernel
theorem dX2_free_18 : decode cX2_free 18 = .ok (.invokevirtual 77, 3) := by decide +kernel
theorem dX2_free_21 : decode cX2_free 21 = .ok (.iconst 1, 1) := by decide +kernel
theorem dX2_free_22 : decode cX2_free 22 = .ok (.if_icmp .ne 17, 3) := by decide +kernel
theorem dX2_free_25 : decode cX2_free 25 = .ok (.aload_n 0, 1) := by decide +kernel
theorem dX2_free_26 : decode cX2_free 26 = .ok (.getfield 12, 3) := by decide +kernel
theorem dX2_free_29 : decode cX2_free 29 = .ok (.iload_n 1, 1) := by decide +kernel
theorem dX2_free_30 : decode cX2_free 30 = .ok (.invokevirtual 102, 3) := by decide +kernel
theorem dX2_free_33 : decode cX2_free 33 = .ok (.invokestatic 92, 3) := by decide +kernel
theorem dX2_free_36 : decode cX2_free 36 = .ok (.goto 5, 3) := by decide +kernel
theorem dX2_free_39 : decode cX2_free 39 = .ok (.bipush (-9), 2) := by decide +kernel
theorem dX2_free_41 : decode cX2_free 41 = .ok (.ireturn, 1) := by decide +kernel
set_option maxRecDepth 20000 in
theorem ggX2_mirrors_X1_isMirrored : GoodIn wsX2_mirrors wsX1_isMirrored := goodIn_r _ [6, 7, 8, 9, 10, 5, 11, 12, 13, 14, 15, 16, 17, 18, 19, 20, 21, 22, 23, 24, 25, 26, 27, 34, 35, 36, 37, 38, 39] (by decide +kernel) (by decide +kernel)
set_option maxRecDepth 20000 in
theorem gX2_mirrors_X1_isMirrored : GoodIn wsX2_mirrors (wsV RX2 105 RX1 yX1_isMirrored wsX1_isMirrored) := goodIn_app (goodIn_of _ (by decide +kernel)) ggX2_mirrors_X1_isMirrored
set_option maxRecDepth 20000 in
theorem ggX2_mirrors_X2_asNumber : GoodIn wsX2_mirrors wsX2_asNumber := goodIn_r _ [31] (by decide +kernel) (by decide +kernel)
set_option maxRecDepth 20000 in
theorem gX2_mirrors_X2_asNumber : GoodIn wsX2_mirrors (va_wsS RX2 43 yX2_asNumber wsX2_asNumber) := goodIn_app (goodIn_of _ (by decide +kernel)) ggX2_mirrors_X2_asNumber
theorem dX2_mirrors_0 : decode cX2_mirrors 0 = .ok (.aload_n 0, 1) := by decide +kernel
theorem dX2_mirrors_1 : decode cX2_mirrors 1 = .ok (.getfield 12, 3) := by decide +kernel
theorem dX2_mirrors_4 : decode cX2_mirrors 4 = .ok (.invokevirtual 105, 3) := by decide +kernel
theorem dX2_mirrors_7 : decode cX2_mirrors 7 = .ok (.invokestatic 43, 3) := by decide +kernel
theorem dX2_mirrors_10 : decode cX2_mirrors 10 = .ok (.ireturn, 1) := by decide +kernel
set_option maxRecDepth 20000 in
theorem ggX2_ring_X0_restart : GoodIn wsX2_ring wsX0_restart := goodIn_r _ [7, 8, 9, 10, 11, 12, 13, 14, 15, 16, 6, 17, 18, 19, 20, 21, 22, 25, 26, 27] (by decide +kernel) (by decide +kernel)
set_option maxRecDepth 20000 in
theorem gX2_ring_X0_restart : GoodIn wsX2_ring (wsV RX2 109 RX0 yX0_restart wsX0_restart) := goodIn_app (goodIn_of _ (by decide +kernel)) ggX2_ring_X0_restart
theorem dX2_ring_0 : decode cX2_ring 0 = .ok (.iload_n 1, 1) := by decide +kernel
theorem dX2_ring_1 : decode cX2_ring 1 = .ok (.iconst 3, 1) := by decide +kernel
theorem dX2_ring_2 : decode cX2_ring 2 = .ok (.if_icmp .lt 9, 3) := by decide +kernel
theorem dX2_ring_5 : decode cX2_ring 5 = .ok (.iload_n 1, 1) := by decide +kernel
theorem dX2_ring_6 : decode cX2_ring 6 = .ok (.bipush 60, 2) := by decide +kernel
theorem dX2_ring_8 : decode cX2_ring 8 = .ok (.if_icmp .le 6, 3) := by decide +kernel
theorem dX2_ring_11 : decode cX2_ring 11 = .ok (.bipush (-2), 2) := by decide +kernel
theorem dX2_ring_13 : decode cX2_ring 13 = .ok (.ireturn, 1) := by decide +kernel
theorem dX2_ring_14 : decode cX2_ring 14 = .ok (.aload_n 0, 1) := by decide +kernel
theorem dX2_ring_15 : decode cX2_ring 15 = .ok (.getfield 21, 3) := by decide +kernel
theorem dX2_ring_18 : decode cX2_ring 18 = .ok (.getfield 108, 3) := by decide +kernel
theorem dX2_ring_21 : decode cX2_ring 21 = .ok (.istore_n 2, 1) := by decide +kernel
theorem dX2_ring_22 : decode cX2_ring 22 = .ok (.aload_n 0, 1) := by decide +kernel
theorem dX2_ring_23 : decode cX2_ring 23 = .ok (.getfield 21, 3) := by decide +kernel
theorem dX2_ring_26 : decode cX2_ring 26 = .ok (.iload_n 1, 1) := by decide +kernel
theorem dX2_ring_27 : decode cX2_ring 27 = .ok (.invokevirtual 109, 3) := by decide +kernel
theorem dX2_ring_30 : decode cX2_ring 30 = .ok (.iload_n 2, 1) := by decide +kernel
theorem dX2_ring_31 : decode cX2_ring 31 = .ok (.ireturn, 1) := by decide +kernel
set_option maxRecDepth 20000 in
theorem ggX2_put_X0_has : GoodIn wsX2_put wsX0_has := goodIn_r _ [8, 9, 18, 19, 20] (by decide +kernel) (by decide +kernel)
set_option maxRecDepth 20000 in
theorem gX2_put_X0_has : GoodIn wsX2_put (wsV RX2 110 RX0 yX0_has wsX0_has) := goodIn_app (goodIn_of _ (by decide +kernel)) ggX2_put_X0_has
set_option maxRecDepth 20000 in
theorem ggX2_put_X1_has : GoodIn wsX2_put wsX1_has := goodIn_r _ [14, 15, 21, 22, 23, 24, 25, 26] (by decide +kernel) (by decide +kernel)
set_option maxRecDepth 20000 in
theorem gX2_put_X1_has : GoodIn wsX2_put (wsV RX2 35 RX1 yX1_has wsX1_has) := goodIn_app (goodIn_of _ (by decide +kernel)) ggX2_put_X1_has
theorem dX2_put_0 : decode cX2_put 0 = .ok (.aload_n 0, 1) := by decide +kernel
theorem dX2_put_1 : decode cX2_put 1 = .ok (.getfield 21, 3) := by decide +kernel
theorem dX2_put_4 : decode cX2_put 4 = .ok (.iload_n 1, 1) := by decide +kernel
theorem dX2_put_5 : decode cX2_put 5 = .ok (.invokevirtual 110, 3) := by decide +kernel
theorem dX2_put_8 : decode cX2_put 8 = .ok (.ifCond .eq 14, 3) := by decide +kernel
theorem dX2_put_11 : decode cX2_put 11 = .ok (.aload_n 0, 1) := by decide +kernel
theorem dX2_put_12 : decode cX2_put 12 = .ok (.getfield 12, 3) := by decide +kernel
theorem dX2_put_15 : decode cX2_put 15 = .ok (.iload_n 2, 1) := by decide +kernel
theorem dX2_put_16 : decode cX2_put 16 = .ok (.invokevirtual 35, 3) := by decide +kernel
theorem dX2_put_19 : decode cX2_put 19 = .ok (.ifCond .ne 5, 3) := by decide +kernel
theorem dX2_put_22 : decode cX2_put 22 = .ok (.iconst (-1), 1) := by decide +kernel
theorem dX2_put_23 : decode cX2_put 23 = .ok (.ireturn, 1) := by decide +kernel
theorem dX2_put_24 : decode cX2_put 24 = .ok (.aload_n 0, 1) := by decide +kernel
theorem dX2_put_25 : decode cX2_put 25 = .ok (.getfield 21, 3) := by decide +kernel
theorem dX2_put_28 : decode cX2_put 28 = .ok (.getfield 111, 3) := by decide +kernel
theorem dX2_put_31 : decode cX2_put 31 = .ok (.iload_n 1, 1) := by decide +kernel
theorem dX2_put_32 : decode cX2_put 32 = .ok (.iaload, 1) := by decide +kernel
theorem dX2_put_33 : decode cX2_put 33 = .ok (.istore_n 3, 1) := by decide +kernel
theorem dX2_put_34 : decode cX2_put 34 = .ok (.aload_n 0, 1) := by decide +kernel
theorem dX2_put_35 : decode cX2_put 35 = .ok (.getfield 21, 3) := by decide +kernel
theorem dX2_put_38 : decode cX2_put 38 = .ok (.getfield 111, 3) := by decide +kernel
theorem dX2_put_41 : decode cX2_put 41 = .ok (.iload_n 1, 1) := by decide +kernel
theorem dX2_put_42 : decode cX2_put 42 = .ok (.iload_n 2, 1) := by decide +kernel
theorem dX2_put_43 : decode cX2_put 43 = .ok (.iastore, 1) := by decide +kernel
theorem dX2_put_44 : decode cX2_put 44 = .ok (.iload_n 3, 1) := by decide +kernel
theorem dX2_put_45 : decode cX2_put 45 = .ok (.ireturn, 1) := by decide +kernel
set_option maxRecDepth 20000 in
theorem ggX2_at_X0_has : GoodIn wsX2_at wsX0_has := goodIn_r _ [7, 8, 11, 12, 13] (by decide +kernel) (by decide +kernel)
set_option maxRecDepth 20000 in
theorem gX2_at_X0_has : GoodIn wsX2_at (wsV RX2 110 RX0 yX0_has wsX0_has) := goodIn_app (goodIn_of _ (by decide +kernel)) ggX2_at_X0_has
theorem dX2_at_0 : decode cX2_at 0 = .ok (.aload_n 0, 1) := by decide +kernel
theorem dX2_at_1 : decode cX2_at 1 = .ok (.getfield 21, 3) := by decide +kernel
theorem dX2_at_4 : decode cX2_at 4 = .ok (.iload_n 1, 1) := by decide +kernel
theorem dX2_at_5 : decode cX2_at 5 = .ok (.invokevirtual 110, 3) := by decide +kernel
theorem dX2_at_8 : decode cX2_at 8 = .ok (.ifCond .eq 15, 3) := by decide +kernel
theorem dX2_at_11 : decode cX2_at 11 = .ok (.aload_n 0, 1) := by decide +kernel
theorem dX2_at_12 : decode cX2_at 12 = .ok (.getfield 21, 3) := by decide +kernel
theorem dX2_at_15 : decode cX2_at 15 = .ok (.getfield 111, 3) := by decide +kernel
theorem dX2_at_18 : decode cX2_at 18 = .ok (.iload_n 1, 1) := by decide +kernel
theorem dX2_at_19 : decode cX2_at 19 = .ok (.iaload, 1) := by decide +kernel
theorem dX2_at_20 : decode cX2_at 20 = .ok (.goto 4, 3) := by decide +kernel
theorem dX2_at_23 : decode cX2_at 23 = .ok (.iconst (-1), 1) := by decide +kernel
theorem dX2_at_24 : decode cX2_at 24 = .ok (.ireturn, 1) := by decide +kernel
set_option maxRecDepth 20000 in
theorem ggX2_faults_X0_isFault : GoodIn wsX2_faults wsX0_isFault := goodIn_r _ [8, 9, 10, 11, 12, 7, 13, 14, 15, 16, 17, 18, 19, 20, 21, 22, 23, 24, 25, 26, 27, 28, 31, 32, 33, 34, 35, 36, 37, 38, 39] (by decide +kernel) (by decide +kernel)
set_option maxRecDepth 20000 in
theorem gX2_faults_X0_isFault : GoodIn wsX2_faults (wsV RX2 114 RX0 yX0_isFault wsX0_isFault) := goodIn_app (goodIn_of _ (by decide +kernel)) ggX2_faults_X0_isFault
theorem dX2_faults_0 : decode cX2_faults 0 = .ok (.iconst 0, 1) := by decide +kernel
theorem dX2_faults_1 : decode cX2_faults 1 = .ok (.istore_n 1, 1) := by decide +kernel
theorem dX2_faults_2 : decode cX2_faults 2 = .ok (.iconst 0, 1) := by decide +kernel
theorem dX2_faults_3 : decode cX2_faults 3 = .ok (.istore_n 2, 1) := by decide +kernel
theorem dX2_faults_4 : decode cX2_faults 4 = .ok (.iload_n 2, 1) := by decide +kernel
theorem dX2_faults_5 : decode cX2_faults 5 = .ok (.aload_n 0, 1) := by decide +kernel
theorem dX2_faults_6 : decode cX2_faults 6 = .ok (.getfield 21, 3) := by decide +kernel
theorem dX2_faults_9 : decode cX2_faults 9 = .ok (.getfield 108, 3) := by decide +kernel
theorem dX2_faults_12 : decode cX2_faults 12 = .ok (.if_icmp .ge 27, 3) := by decide +kernel
theorem dX2_faults_15 : decode cX2_faults 15 = .ok (.aload_n 0, 1) := by decide +kernel
theorem dX2_faults_16 : decode cX2_faults 16 = .ok (.getfield 21, 3) := by decide +kernel
theorem dX2_faults_19 : decode cX2_faults 19 = .ok (.iload_n 2, 1) := by decide +kernel
theorem dX2_faults_20 : decode cX2_faults 20 = .ok (.aload_n 0, 1) := by decide +kernel
theorem dX2_faults_21 : decode cX2_faults 21 = .ok (.getfield 12, 3) := by decide +kernel
theorem dX2_faults_24 : decode cX2_faults 24 = .ok (.invokevirtual 114, 3) := by decide +kernel
theorem dX2_faults_27 : decode cX2_faults 27 = .ok (.ifCond .eq 6, 3) := by decide +kernel
theorem dX2_faults_30 : decode cX2_faults 30 = .ok (.iinc 1 1, 3) := by decide +kernel
theorem dX2_faults_33 : decode cX2_faults 33 = .ok (.iinc 2 1, 3) := by decide +kernel
theorem dX2_faults_36 : decode cX2_faults 36 = .ok (.goto (-32), 3) := by decide +kernel
theorem dX2_faults_39 : decode cX2_faults 39 = .ok (.iload_n 1, 1) := by decide +kernel
theorem dX2_faults_40 : decode cX2_faults 40 = .ok (.ireturn, 1) := by decide +kernel
set_option maxRecDepth 20000 in
theorem ggX2_fault_X0_has : GoodIn wsX2_fault wsX0_has := goodIn_r _ [7, 8, 38, 39, 40] (by decide +kernel) (by decide +kernel)
set_option maxRecDepth 20000 in
theorem gX2_fault_X0_has : GoodIn wsX2_fault (wsV RX2 110 RX0 yX0_has wsX0_has) := goodIn_app (goodIn_of _ (by decide +kernel)) ggX2_fault_X0_has
set_option maxRecDepth 20000 in
theorem ggX2_fault_X0_faultFrom : GoodIn wsX2_fault wsX0_faultFrom := goodIn_r _ [12, 8, 13, 14, 15, 6, 16, 17, 18, 19, 20, 21, 22, 23, 24, 25, 26, 27, 28, 29, 30, 31, 32, 33, 34, 35, 38, 39, 40, 41, 42, 43, 44, 45, 46] (by decide +kernel) (by decide +kernel)
set_option maxRecDepth 20000 in
theorem gX2_fault_X0_faultFrom : GoodIn wsX2_fault (wsV RX2 118 RX0 yX0_faultFrom wsX0_faultFrom) := goodIn_app (goodIn_of _ (by decide +kernel)) ggX2_fault_X0_faultFrom
theorem dX2_fault_0 : decode cX2_fault 0 = .ok (.aload_n 0, 1) := by decide +kernel
theorem dX2_fault_1 : decode cX2_fault 1 = .ok (.getfield 21, 3) := by decide +kernel
theorem dX2_fault_4 : decode cX2_fault 4 = .ok (.iload_n 1, 1) := by decide +kernel
theorem dX2_fault_5 : decode cX2_fault 5 = .ok (.invokevirtual 110, 3) := by decide +kernel
theorem dX2_fault_8 : decode cX2_fault 8 = .ok (.ifCond .eq 18, 3) := by decide +kernel
theorem dX2_fault_11 : decode cX2_fault 11 = .ok (.aload_n 0, 1) := by decide +kernel
theorem dX2_fault_12 : decode cX2_fault 12 = .ok (.getfield 21, 3) := by decide +kernel
theorem dX2_fault_15 : decode cX2_fault 15 = .ok (.iload_n 1, 1) := by decide +kernel
theorem dX2_fault_16 : decode cX2_fault 16 = .ok (.aload_n 0, 1) := by decide +kernel
theorem dX2_fault_17 : decode cX2_fault 17 = .ok (.getfield 12, 3) := by decide +kernel
theorem dX2_fault_20 : decode cX2_fault 20 = .ok (.invokevirtual 118, 3) := by decide +kernel
theorem dX2_fault_23 : decode cX2_fault 23 = .ok (.goto 4, 3) := by decide +kernel
theorem dX2_fault_26 : decode cX2_fault 26 = .ok (.iconst (-1), 1) := by decide +kernel
theorem dX2_fault_27 : decode cX2_fault 27 = .ok (.ireturn, 1) := by decide +kernel
set_option maxRecDepth 20000 in
theorem ggX2_mend_X0_has : GoodIn wsX2_mend wsX0_has := goodIn_r _ [7, 8, 61, 62, 63] (by decide +kernel) (by decide +kernel)
set_option maxRecDepth 20000 in
theorem gX2_mend_X0_has : GoodIn wsX2_mend (wsV RX2 110 RX0 yX0_has wsX0_has) := goodIn_app (goodIn_of _ (by decide +kernel)) ggX2_mend_X0_has
set_option maxRecDepth 20000 in
theorem ggX2_mend_X0_mendAround : GoodIn wsX2_mend wsX0_mendAround := goodIn_r _ [12, 8, 13, 14, 15, 6, 16, 17, 18, 19, 20, 21, 22, 23, 24, 25, 26, 27, 28, 29, 30, 31, 32, 33, 34, 35, 36, 37, 38, 39, 40, 41, 42, 43, 44, 45, 46, 47, 48, 49, 50, 51, 52, 53, 54, 55, 56, 57, 58, 61, 62, 63, 64, 65, 66, 67, 68, 69] (by decide +kernel) (by decide +kernel)
set_option maxRecDepth 20000 in
theorem gX2_mend_X0_mendAround : GoodIn wsX2_mend (wsV RX2 122 RX0 yX0_mendAround wsX0_mendAround) := goodIn_app (goodIn_of _ (by decide +kernel)) ggX2_mend_X0_mendAround
theorem dX2_mend_0 : decode cX2_mend 0 = .ok (.aload_n 0, 1) := by decide +kernel
theorem dX2_mend_1 : decode cX2_mend 1 = .ok (.getfield 21, 3) := by decide +kernel
theorem dX2_mend_4 : decode cX2_mend 4 = .ok (.iload_n 1, 1) := by decide +kernel
theorem dX2_mend_5 : decode cX2_mend 5 = .ok (.invokevirtual 110, 3) := by decide +kernel
theorem dX2_mend_8 : decode cX2_mend 8 = .ok (.ifCond .eq 18, 3) := by decide +kernel
theorem dX2_mend_11 : decode cX2_mend 11 = .ok (.aload_n 0, 1) := by decide +kernel
theorem dX2_mend_12 : decode cX2_mend 12 = .ok (.getfield 21, 3) := by decide +kernel
theorem dX2_mend_15 : decode cX2_mend 15 = .ok (.iload_n 1, 1) := by decide +kernel
theorem dX2_mend_16 : decode cX2_mend 16 = .ok (.aload_n 0, 1) := by decide +kernel
theorem dX2_mend_17 : decode cX2_mend 17 = .ok (.getfield 12, 3) := by decide +kernel
theorem dX2_mend_20 : decode cX2_mend 20 = .ok (.invokevirtual 122, 3) := by decide +kernel
theorem dX2_mend_23 : decode cX2_mend 23 = .ok (.goto 4, 3) := by decide +kernel
theorem dX2_mend_26 : decode cX2_mend 26 = .ok (.iconst (-1), 1) := by decide +kernel
theorem dX2_mend_27 : decode cX2_mend 27 = .ok (.ireturn, 1) := by decide +kernel
set_option maxRecDepth 20000 in
theorem ggX2_fresh_X1_findRing : GoodIn wsX2_fresh wsX1_findRing := goodIn_r _ [8, 9, 10, 11, 12, 7, 13, 14, 15, 16, 17, 18, 19, 20, 21, 22, 23, 24, 25, 26, 27, 28, 29, 30, 48, 49, 50, 51, 52, 53] (by decide +kernel) (by decide +kernel)
set_option maxRecDepth 20000 in
theorem gX2_fresh_X1_findRing : GoodIn wsX2_fresh (wsV RX2 60 RX1 yX1_findRing wsX1_findRing) := goodIn_app (goodIn_of _ (by decide +kernel)) ggX2_fresh_X1_findRing
set_option maxRecDepth 20000 in
theorem ggX2_fresh_X0_putWalk : GoodIn wsX2_fresh wsX0_putWalk := goodIn_r _ [35, 36, 37, 38, 39, 40, 34, 41, 42, 48, 49, 50, 51, 52, 53, 45, 46, 47] (by decide +kernel) (by decide +kernel)
set_option maxRecDepth 20000 in
theorem gX2_fresh_X0_putWalk : GoodIn wsX2_fresh (wsV RX2 125 RX0 yX0_putWalk wsX0_putWalk) := goodIn_app (goodIn_of _ (by decide +kernel)) ggX2_fresh_X0_putWalk
theorem dX2_fresh_0 : decode cX2_fresh 0 = .ok (.aload_n 0, 1) := by decide +kernel
theorem dX2_fresh_1 : decode cX2_fresh 1 = .ok (.getfield 12, 3) := by decide +kernel
theorem dX2_fresh_4 : decode cX2_fresh 4 = .ok (.aload_n 0, 1) := by decide +kernel
theorem dX2_fresh_5 : decode cX2_fresh 5 = .ok (.getfield 21, 3) := by decide +kernel
theorem dX2_fresh_8 : decode cX2_fresh 8 = .ok (.getfield 108, 3) := by decide +kernel
theorem dX2_fresh_11 : decode cX2_fresh 11 = .ok (.invokevirtual 60, 3) := by decide +kernel
theorem dX2_fresh_14 : decode cX2_fresh 14 = .ok (.ifCond .ne 6, 3) := by decide +kernel
theorem dX2_fresh_17 : decode cX2_fresh 17 = .ok (.bipush (-9), 2) := by decide +kernel
theorem dX2_fresh_19 : decode cX2_fresh 19 = .ok (.ireturn, 1) := by decide +kernel
theorem dX2_fresh_20 : decode cX2_fresh 20 = .ok (.aload_n 0, 1) := by decide +kernel
theorem dX2_fresh_21 : decode cX2_fresh 21 = .ok (.getfield 21, 3) := by decide +kernel
theorem dX2_fresh_24 : decode cX2_fresh 24 = .ok (.iconst 0, 1) := by decide +kernel
theorem dX2_fresh_25 : decode cX2_fresh 25 = .ok (.aload_n 0, 1) := by decide +kernel
theorem dX2_fresh_26 : decode cX2_fresh 26 = .ok (.getfield 21, 3) := by decide +kernel
theorem dX2_fresh_29 : decode cX2_fresh 29 = .ok (.getfield 108, 3) := by decide +kernel
theorem dX2_fresh_32 : decode cX2_fresh 32 = .ok (.aload_n 0, 1) := by decide +kernel
theorem dX2_fresh_33 : decode cX2_fresh 33 = .ok (.getfield 12, 3) := by decide +kernel
theorem dX2_fresh_36 : decode cX2_fresh 36 = .ok (.iconst 0, 1) := by decide +kernel
theorem dX2_fresh_37 : decode cX2_fresh 37 = .ok (.invokevirtual 125, 3) := by decide +kernel
theorem dX2_fresh_40 : decode cX2_fresh 40 = .ok (.iconst 1, 1) := by decide +kernel
theorem dX2_fresh_41 : decode cX2_fresh 41 = .ok (.ireturn, 1) := by decide +kernel
set_option maxRecDepth 20000 in
theorem ggX2_number_X0_has : GoodIn wsX2_number wsX0_has := goodIn_r _ [8, 9, 12, 13, 14] (by decide +kernel) (by decide +kernel)
set_option maxRecDepth 20000 in
theorem gX2_number_X0_has : GoodIn wsX2_number (wsV RX2 110 RX0 yX0_has wsX0_has) := goodIn_app (goodIn_of _ (by decide +kernel)) ggX2_number_X0_has
theorem dX2_number_0 : decode cX2_number 0 = .ok (.aload_n 0, 1) := by decide +kernel
theorem dX2_number_1 : decode cX2_number 1 = .ok (.getfield 21, 3) := by decide +kernel
theorem dX2_number_4 : decode cX2_number 4 = .ok (.iload_n 1, 1) := by decide +kernel
theorem dX2_number_5 : decode cX2_number 5 = .ok (.invokevirtual 110, 3) := by decide +kernel
theorem dX2_number_8 : decode cX2_number 8 = .ok (.ifCond .ne 5, 3) := by decide +kernel
theorem dX2_number_11 : decode cX2_number 11 = .ok (.iconst (-1), 1) := by decide +kernel
theorem dX2_number_12 : decode cX2_number 12 = .ok (.ireturn, 1) := by decide +kernel
theorem dX2_number_13 : decode cX2_number 13 = .ok (.iload_n 2, 1) := by decide +kernel
theorem dX2_number_14 : decode cX2_number 14 = .ok (.ifCond .lt 9, 3) := by decide +kernel
theorem dX2_number_17 : decode cX2_number 17 = .ok (.iload_n 2, 1) := by decide +kernel
theorem dX2_number_18 : decode cX2_number 18 = .ok (.ldc 129, 2) := by decide +kernel
theorem dX2_number_20 : decode cX2_number 20 = .ok (.if_icmp .le 6, 3) := by decide +kernel
theorem dX2_number_23 : decode cX2_number 23 = .ok (.bipush (-2), 2) := by decide +kernel
theorem dX2_number_25 : decode cX2_number 25 = .ok (.ireturn, 1) := by decide +kernel
theorem dX2_number_26 : decode cX2_number 26 = .ok (.aload_n 0, 1) := by decide +kernel
theorem dX2_number_27 : decode cX2_number 27 = .ok (.getfield 21, 3) := by decide +kernel
theorem dX2_number_30 : decode cX2_number 30 = .ok (.getfield 130, 3) := by decide +kernel
theorem dX2_number_33 : decode cX2_number 33 = .ok (.iload_n 1, 1) := by decide +kernel
theorem dX2_number_34 : decode cX2_number 34 = .ok (.iaload, 1) := by decide +kernel
theorem dX2_number_35 : decode cX2_number 35 = .ok (.istore_n 3, 1) := by decide +kernel
theorem dX2_number_36 : decode cX2_number 36 = .ok (.aload_n 0, 1) := by decide +kernel
theorem dX2_number_37 : decode cX2_number 37 = .ok (.getfield 21, 3) := by decide +kernel
theorem dX2_number_40 : decode cX2_number 40 = .ok (.getfield 130, 3) := by decide +kernel
theorem dX2_number_43 : decode cX2_number 43 = .ok (.iload_n 1, 1) := by decide +kernel
theorem dX2_number_44 : decode cX2_number 44 = .ok (.iload_n 2, 1) := by decide +kernel
theorem dX2_number_45 : decode cX2_number 45 = .ok (.iastore, 1) := by decide +kernel
theorem dX2_number_46 : decode cX2_number 46 = .ok (.iload_n 3, 1) := by decide +kernel
theorem dX2_number_47 : decode cX2_number 47 = .ok (.ireturn, 1) := by decide +kernel
set_option maxRecDepth 20000 in
theorem ggX2_told_X0_has : GoodIn wsX2_told wsX0_has := goodIn_r _ [7, 8, 11, 12, 13] (by decide +kernel) (by decide +kernel)
set_option maxRecDepth 20000 in
theorem gX2_told_X0_has : GoodIn wsX2_told (wsV RX2 110 RX0 yX0_has wsX0_has) := goodIn_app (goodIn_of _ (by decide +kernel)) ggX2_told_X0_has
theorem dX2_told_0 : decode cX2_told 0 = .ok (.aload_n 0, 1) := by decide +kernel
theorem dX2_told_1 : decode cX2_told 1 = .ok (.getfield 21, 3) := by decide +kernel
theorem dX2_told_4 : decode cX2_told 4 = .ok (.iload_n 1, 1) := by decide +kernel
theorem dX2_told_5 : decode cX2_told 5 = .ok (.invokevirtual 110, 3) := by decide +kernel
theorem dX2_told_8 : decode cX2_told 8 = .ok (.ifCond .eq 15, 3) := by decide +kernel
theorem dX2_told_11 : decode cX2_told 11 = .ok (.aload_n 0, 1) := by decide +kernel
theorem dX2_told_12 : decode cX2_told 12 = .ok (.getfield 21, 3) := by decide +kernel
theorem dX2_told_15 : decode cX2_told 15 = .ok (.getfield 130, 3) := by decide +kernel
theorem dX2_told_18 : decode cX2_told 18 = .ok (.iload_n 1, 1) := by decide +kernel
theorem dX2_told_19 : decode cX2_told 19 = .ok (.iaload, 1) := by decide +kernel
theorem dX2_told_20 : decode cX2_told 20 = .ok (.goto 4, 3) := by decide +kernel
theorem dX2_told_23 : decode cX2_told 23 = .ok (.iconst (-1), 1) := by decide +kernel
theorem dX2_told_24 : decode cX2_told 24 = .ok (.ireturn, 1) := by decide +kernel
set_option maxRecDepth 20000 in
theorem ggX2_round_X0_likeNeighbours : GoodIn wsX2_round wsX0_likeNeighbours := goodIn_r _ [6, 7, 8, 9, 10, 11, 5, 12, 37, 38, 39] (by decide +kernel) (by decide +kernel)
set_option maxRecDepth 20000 in
theorem gX2_round_X0_likeNeighbours : GoodIn wsX2_round (wsV RX2 133 RX0 yX0_likeNeighbours wsX0_likeNeighbours) := goodIn_app (goodIn_of _ (by decide +kernel)) ggX2_round_X0_likeNeighbours
set_option maxRecDepth 20000 in
theorem ggX2_round_X0_doRound : GoodIn wsX2_round wsX0_doRound := goodIn_r _ [16, 8, 7, 17, 18, 5, 19, 20, 21, 22, 23, 24, 25, 26, 37, 38, 39] (by decide +kernel) (by decide +kernel)
set_option maxRecDepth 20000 in
theorem gX2_round_X0_doRound : GoodIn wsX2_round (wsV RX2 136 RX0 yX0_doRound wsX0_doRound) := goodIn_app (goodIn_of _ (by decide +kernel)) ggX2_round_X0_doRound
set_option maxRecDepth 20000 in
theorem ggX2_round_X0_greatestNumber : GoodIn wsX2_round wsX0_greatestNumber := goodIn_r _ [30, 7, 8, 31, 32, 33, 34, 37, 38, 39] (by decide +kernel) (by decide +kernel)
set_option maxRecDepth 20000 in
theorem gX2_round_X0_greatestNumber : GoodIn wsX2_round (wsV RX2 139 RX0 yX0_greatestNumber wsX0_greatestNumber) := goodIn_app (goodIn_of _ (by decide +kernel)) ggX2_round_X0_greatestNumber
theorem dX2_round_0 : decode cX2_round 0 = .ok (.aload_n 0, 1) := by decide +kernel
theorem dX2_round_1 : decode cX2_round 1 = .ok (.getfield 21, 3) := by decide +kernel
theorem dX2_round_4 : decode cX2_round 4 = .ok (.invokevirtual 133, 3) := by decide +kernel
theorem dX2_round_7 : decode cX2_round 7 = .ok (.ifCond .le 6, 3) := by decide +kernel
theorem dX2_round_10 : decode cX2_round 10 = .ok (.bipush (-3), 2) := by decide +kernel
theorem dX2_round_12 : decode cX2_round 12 = .ok (.ireturn, 1) := by decide +kernel
theorem dX2_round_13 : decode cX2_round 13 = .ok (.aload_n 0, 1) := by decide +kernel
theorem dX2_round_14 : decode cX2_round 14 = .ok (.getfield 21, 3) := by decide +kernel
theorem dX2_round_17 : decode cX2_round 17 = .ok (.invokevirtual 136, 3) := by decide +kernel
theorem dX2_round_20 : decode cX2_round 20 = .ok (.aload_n 0, 1) := by decide +kernel
theorem dX2_round_21 : decode cX2_round 21 = .ok (.getfield 21, 3) := by decide +kernel
theorem dX2_round_24 : decode cX2_round 24 = .ok (.invokevirtual 139, 3) := by decide +kernel
theorem dX2_round_27 : decode cX2_round 27 = .ok (.ireturn, 1) := by decide +kernel
set_option maxRecDepth 20000 in
theorem ggX2_colours_X0_likeNeighbours : GoodIn wsX2_colours wsX0_likeNeighbours := goodIn_r _ [6, 7, 8, 9, 10, 11, 5, 12, 48, 49, 50] (by decide +kernel) (by decide +kernel)
set_option maxRecDepth 20000 in
theorem gX2_colours_X0_likeNeighbours : GoodIn wsX2_colours (wsV RX2 133 RX0 yX0_likeNeighbours wsX0_likeNeighbours) := goodIn_app (goodIn_of _ (by decide +kernel)) ggX2_colours_X0_likeNeighbours
set_option maxRecDepth 20000 in
theorem ggX2_colours_X0_greatestNumber : GoodIn wsX2_colours wsX0_greatestNumber := goodIn_r _ [16, 7, 8, 17, 18, 19, 20, 48, 49, 50] (by decide +kernel) (by decide +kernel)
set_option maxRecDepth 20000 in
theorem gX2_colours_X0_greatestNumber : GoodIn wsX2_colours (wsV RX2 139 RX0 yX0_greatestNumber wsX0_greatestNumber) := goodIn_app (goodIn_of _ (by decide +kernel)) ggX2_colours_X0_greatestNumber
set_option maxRecDepth 20000 in
theorem ggX2_colours_X0_doRound : GoodIn wsX2_colours wsX0_doRound := goodIn_r _ [24, 8, 7, 25, 26, 5, 27, 28, 29, 30, 31, 32, 33, 34, 48, 49, 50] (by decide +kernel) (by decide +kernel)
set_option maxRecDepth 20000 in
theorem gX2_colours_X0_doRound : GoodIn wsX2_colours (wsV RX2 136 RX0 yX0_doRound wsX0_doRound) := goodIn_app (goodIn_of _ (by decide +kernel)) ggX2_colours_X0_doRound
set_option maxRecDepth 20000 in
theorem ggX2_colours_X0_giveUpColour : GoodIn wsX2_colours wsX0_giveUpColour := goodIn_r _ [38, 7, 8, 39, 40, 41, 5, 42, 9, 10, 11, 12, 43, 44, 45, 48, 49, 50] (by decide +kernel) (by decide +kernel)
set_option maxRecDepth 20000 in
theorem gX2_colours_X0_giveUpColour : GoodIn wsX2_colours (wsV RX2 142 RX0 yX0_giveUpColour wsX0_giveUpColour) := goodIn_app (goodIn_of _ (by decide +kernel)) ggX2_colours_X0_giveUpColour
theorem dX2_colours_0 : decode cX2_colours 0 = .ok (.aload_n 0, 1) := by decide +kernel
theorem dX2_colours_1 : decode cX2_colours 1 = .ok (.getfield 21, 3) := by decide +kernel
theorem dX2_colours_4 : decode cX2_colours 4 = .ok (.invokevirtual 133, 3) := by decide +kernel
theorem dX2_colours_7 : decode cX2_colours 7 = .ok (.ifCond .le 6, 3) := by decide +kernel
theorem dX2_colours_10 : decode cX2_colours 10 = .ok (.bipush (-3), 2) := by decide +kernel
theorem dX2_colours_12 : decode cX2_colours 12 = .ok (.ireturn, 1) := by decide +kernel
theorem dX2_colours_13 : decode cX2_colours 13 = .ok (.iconst 0, 1) := by decide +kernel
theorem dX2_colours_14 : decode cX2_colours 14 = .ok (.istore_n 1, 1) := by decide +kernel
theorem dX2_colours_15 : decode cX2_colours 15 = .ok (.iload_n 1, 1) := by decide +kernel
theorem dX2_colours_16 : decode cX2_colours 16 = .ok (.bipush 100, 2) := by decide +kernel
theorem dX2_colours_18 : decode cX2_colours 18 = .ok (.if_icmp .ge 27, 3) := by decide +kernel
theorem dX2_colours_21 : decode cX2_colours 21 = .ok (.aload_n 0, 1) := by decide +kernel
theorem dX2_colours_22 : decode cX2_colours 22 = .ok (.getfield 21, 3) := by decide +kernel
theorem dX2_colours_25 : decode cX2_colours 25 = .ok (.invokevirtual 139, 3) := by decide +kernel
theorem dX2_colours_28 : decode cX2_colours 28 = .ok (.iconst 5, 1) := by decide +kernel
theorem dX2_colours_29 : decode cX2_colours 29 = .ok (.if_icmp .le 16, 3) := by decide +kernel
theorem dX2_colours_32 : decode cX2_colours 32 = .ok (.aload_n 0, 1) := by decide +kernel
theorem dX2_colours_33 : decode cX2_colours 33 = .ok (.getfield 21, 3) := by decide +kernel
theorem dX2_colours_36 : decode cX2_colours 36 = .ok (.invokevirtual 136, 3) := by decide +kernel
theorem dX2_colours_39 : decode cX2_colours 39 = .ok (.iinc 1 1, 3) := by decide +kernel
theorem dX2_colours_42 : decode cX2_colours 42 = .ok (.goto (-27), 3) := by decide +kernel
theorem dX2_colours_45 : decode cX2_colours 45 = .ok (.iconst 5, 1) := by decide +kernel
theorem dX2_colours_46 : decode cX2_colours 46 = .ok (.istore_n 2, 1) := by decide +kernel
theorem dX2_colours_47 : decode cX2_colours 47 = .ok (.iload_n 2, 1) := by decide +kernel
theorem dX2_colours_48 : decode cX2_colours 48 = .ok (.iconst 2, 1) := by decide +kernel
theorem dX2_colours_49 : decode cX2_colours 49 = .ok (.if_icmp .le 17, 3) := by decide +kernel
theorem dX2_colours_52 : decode cX2_colours 52 = .ok (.aload_n 0, 1) := by decide +kernel
theorem dX2_colours_53 : decode cX2_colours 53 = .ok (.getfield 21, 3) := by decide +kernel
theorem dX2_colours_56 : decode cX2_colours 56 = .ok (.iload_n 2, 1) := by decide +kernel
theorem dX2_colours_57 : decode cX2_colours 57 = .ok (.invokevirtual 142, 3) := by decide +kernel
theorem dX2_colours_60 : decode cX2_colours 60 = .ok (.iinc 2 (-1), 3) := by decide +kernel
theorem dX2_colours_63 : decode cX2_colours 63 = .ok (.goto (-16), 3) := by decide +kernel
theorem dX2_colours_66 : decode cX2_colours 66 = .ok (.iload_n 1, 1) := by decide +kernel
theorem dX2_colours_67 : decode cX2_colours 67 = .ok (.ireturn, 1) := by decide +kernel
set_option maxRecDepth 20000 in
theorem ggX2_take_X0_greatestNumber : GoodIn wsX2_take wsX0_greatestNumber := goodIn_r _ [8, 9, 10, 11, 12, 13, 14, 32, 33, 34] (by decide +kernel) (by decide +kernel)
set_option maxRecDepth 20000 in
theorem gX2_take_X0_greatestNumber : GoodIn wsX2_take (wsV RX2 139 RX0 yX0_greatestNumber wsX0_greatestNumber) := goodIn_app (goodIn_of _ (by decide +kernel)) ggX2_take_X0_greatestNumber
