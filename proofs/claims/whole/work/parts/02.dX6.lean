theorem dX6_init_0 : decode cX6_init 0 = .ok (.aload_n 0, 1) := by decide +kernel
theorem dX6_init_1 : decode cX6_init 1 = .ok (.invokespecial 3, 3) := by decide +kernel
theorem dX6_init_4 : decode cX6_init 4 = .ok (.aload_n 0, 1) := by decide +kernel
theorem dX6_init_5 : decode cX6_init 5 = .ok (.sipush 1024, 3) := by decide +kernel
theorem dX6_init_8 : decode cX6_init 8 = .ok (.newarray .int, 2) := by decide +kernel
theorem dX6_init_10 : decode cX6_init 10 = .ok (.putfield 9, 3) := by decide +kernel
theorem dX6_init_13 : decode cX6_init 13 = .ok (.return_, 1) := by decide +kernel
set_option maxRecDepth 20000 in
theorem ggX6_build_X6_setLeaf : GoodIn wsX6_build wsX6_setLeaf := goodIn_r _ [5, 6, 7, 8, 9, 10, 11, 12, 13, 14, 15, 16, 17, 18, 19, 20, 21, 22, 23, 24, 25, 26, 27, 28, 29, 30, 31, 32, 33, 34, 35, 36, 37, 38, 39, 40, 41, 42, 43, 44, 45, 50, 51, 52, 53, 54, 55, 56] (by decide +kernel) (by decide +kernel)
set_option maxRecDepth 20000 in
theorem gX6_build_X6_setLeaf : GoodIn wsX6_build (wsV RX6 15 RX6 yX6_setLeaf wsX6_setLeaf) := goodIn_app (goodIn_of _ (by decide +kernel)) ggX6_build_X6_setLeaf
set_option maxRecDepth 20000 in
theorem ggX6_build_X6_setNode : GoodIn wsX6_build wsX6_setNode := goodIn_r _ [49, 8, 9, 10, 11, 12, 13, 14, 15, 16, 17, 18, 19, 20, 21, 22, 23, 24, 25, 26, 27, 28, 29, 30, 31, 32, 33, 34, 35, 36, 37, 38, 39, 40, 41, 42, 43, 44, 45, 52, 53, 54, 55, 56] (by decide +kernel) (by decide +kernel)
set_option maxRecDepth 20000 in
theorem gX6_build_X6_setNode : GoodIn wsX6_build (wsV RX6 19 RX6 yX6_setNode wsX6_setNode) := goodIn_app (goodIn_of _ (by decide +kernel)) ggX6_build_X6_setNode
theorem dX6_build_0 : decode cX6_build 0 = .ok (.iconst 0, 1) := by decide +kernel
theorem dX6_build_1 : decode cX6_build 1 = .ok (.istore_n 3, 1) := by decide +kernel
theorem dX6_build_2 : decode cX6_build 2 = .ok (.iload_n 3, 1) := by decide +kernel
theorem dX6_build_3 : decode cX6_build 3 = .ok (.bipush 16, 2) := by decide +kernel
theorem dX6_build_5 : decode cX6_build 5 = .ok (.if_icmp .ge 16, 3) := by decide +kernel
theorem dX6_build_8 : decode cX6_build 8 = .ok (.aload_n 0, 1) := by decide +kernel
theorem dX6_build_9 : decode cX6_build 9 = .ok (.aload_n 1, 1) := by decide +kernel
theorem dX6_build_10 : decode cX6_build 10 = .ok (.iload_n 3, 1) := by decide +kernel
theorem dX6_build_11 : decode cX6_build 11 = .ok (.aload_n 2, 1) := by decide +kernel
theorem dX6_build_12 : decode cX6_build 12 = .ok (.invokevirtual 15, 3) := by decide +kernel
theorem dX6_build_15 : decode cX6_build 15 = .ok (.iinc 3 1, 3) := by decide +kernel
theorem dX6_build_18 : decode cX6_build 18 = .ok (.goto (-16), 3) := by decide +kernel
theorem dX6_build_21 : decode cX6_build 21 = .ok (.bipush 15, 2) := by decide +kernel
theorem dX6_build_23 : decode cX6_build 23 = .ok (.istore_n 3, 1) := by decide +kernel
theorem dX6_build_24 : decode cX6_build 24 = .ok (.iload_n 3, 1) := by decide +kernel
theorem dX6_build_25 : decode cX6_build 25 = .ok (.iconst 1, 1) := by decide +kernel
theorem dX6_build_26 : decode cX6_build 26 = .ok (.if_icmp .lt 15, 3) := by decide +kernel
theorem dX6_build_29 : decode cX6_build 29 = .ok (.aload_n 0, 1) := by decide +kernel
theorem dX6_build_30 : decode cX6_build 30 = .ok (.iload_n 3, 1) := by decide +kernel
theorem dX6_build_31 : decode cX6_build 31 = .ok (.aload_n 2, 1) := by decide +kernel
theorem dX6_build_32 : decode cX6_build 32 = .ok (.invokevirtual 19, 3) := by decide +kernel
theorem dX6_build_35 : decode cX6_build 35 = .ok (.iinc 3 (-1), 3) := by decide +kernel
theorem dX6_build_38 : decode cX6_build 38 = .ok (.goto (-14), 3) := by decide +kernel
theorem dX6_build_41 : decode cX6_build 41 = .ok (.return_, 1) := by decide +kernel
set_option maxRecDepth 20000 in
theorem ggX6_refresh_X6_setLeaf : GoodIn wsX6_refresh wsX6_setLeaf := goodIn_r _ [5, 6, 7, 8, 9, 10, 11, 12, 13, 14, 15, 16, 17, 18, 19, 20, 21, 22, 23, 24, 25, 26, 27, 28, 29, 30, 31, 32, 33, 34, 35, 36, 37, 38, 39, 40, 41, 42, 43, 44, 45, 50, 51, 52, 53, 54, 55, 56] (by decide +kernel) (by decide +kernel)
set_option maxRecDepth 20000 in
theorem gX6_refresh_X6_setLeaf : GoodIn wsX6_refresh (wsV RX6 15 RX6 yX6_setLeaf wsX6_setLeaf) := goodIn_app (goodIn_of _ (by decide +kernel)) ggX6_refresh_X6_setLeaf
set_option maxRecDepth 20000 in
theorem ggX6_refresh_X6_setNode : GoodIn wsX6_refresh wsX6_setNode := goodIn_r _ [49, 8, 9, 10, 11, 12, 13, 14, 15, 16, 17, 18, 19, 20, 21, 22, 23, 24, 25, 26, 27, 28, 29, 30, 31, 32, 33, 34, 35, 36, 37, 38, 39, 40, 41, 42, 43, 44, 45, 52, 53, 54, 55, 56] (by decide +kernel) (by decide +kernel)
set_option maxRecDepth 20000 in
theorem gX6_refresh_X6_setNode : GoodIn wsX6_refresh (wsV RX6 19 RX6 yX6_setNode wsX6_setNode) := goodIn_app (goodIn_of _ (by decide +kernel)) ggX6_refresh_X6_setNode
theorem dX6_refresh_0 : decode cX6_refresh 0 = .ok (.aload_n 0, 1) := by decide +kernel
theorem dX6_refresh_1 : decode cX6_refresh 1 = .ok (.aload_n 1, 1) := by decide +kernel
theorem dX6_refresh_2 : decode cX6_refresh 2 = .ok (.iload_n 2, 1) := by decide +kernel
theorem dX6_refresh_3 : decode cX6_refresh 3 = .ok (.aload_n 3, 1) := by decide +kernel
theorem dX6_refresh_4 : decode cX6_refresh 4 = .ok (.invokevirtual 15, 3) := by decide +kernel
theorem dX6_refresh_7 : decode cX6_refresh 7 = .ok (.bipush 16, 2) := by decide +kernel
theorem dX6_refresh_9 : decode cX6_refresh 9 = .ok (.iload_n 2, 1) := by decide +kernel
theorem dX6_refresh_10 : decode cX6_refresh 10 = .ok (.iadd, 1) := by decide +kernel
theorem dX6_refresh_11 : decode cX6_refresh 11 = .ok (.iconst 2, 1) := by decide +kernel
theorem dX6_refresh_12 : decode cX6_refresh 12 = .ok (.idiv, 1) := by decide +kernel
theorem dX6_refresh_13 : decode cX6_refresh 13 = .ok (.istore 4, 2) := by decide +kernel
theorem dX6_refresh_15 : decode cX6_refresh 15 = .ok (.iload 4, 2) := by decide +kernel
theorem dX6_refresh_17 : decode cX6_refresh 17 = .ok (.iconst 1, 1) := by decide +kernel
theorem dX6_refresh_18 : decode cX6_refresh 18 = .ok (.if_icmp .lt 19, 3) := by decide +kernel
theorem dX6_refresh_21 : decode cX6_refresh 21 = .ok (.aload_n 0, 1) := by decide +kernel
theorem dX6_refresh_22 : decode cX6_refresh 22 = .ok (.iload 4, 2) := by decide +kernel
theorem dX6_refresh_24 : decode cX6_refresh 24 = .ok (.aload_n 3, 1) := by decide +kernel
theorem dX6_refresh_25 : decode cX6_refresh 25 = .ok (.invokevirtual 19, 3) := by decide +kernel
theorem dX6_refresh_28 : decode cX6_refresh 28 = .ok (.iload 4, 2) := by decide +kernel
theorem dX6_refresh_30 : decode cX6_refresh 30 = .ok (.iconst 2, 1) := by decide +kernel
theorem dX6_refresh_31 : decode cX6_refresh 31 = .ok (.idiv, 1) := by decide +kernel
theorem dX6_refresh_32 : decode cX6_refresh 32 = .ok (.istore 4, 2) := by decide +kernel
theorem dX6_refresh_34 : decode cX6_refresh 34 = .ok (.goto (-19), 3) := by decide +kernel
theorem dX6_refresh_37 : decode cX6_refresh 37 = .ok (.return_, 1) := by decide +kernel
theorem dX6_become_0 : decode cX6_become 0 = .ok (.aload_n 1, 1) := by decide +kernel
theorem dX6_become_1 : decode cX6_become 1 = .ok (.getfield 9, 3) := by decide +kernel
theorem dX6_become_4 : decode cX6_become 4 = .ok (.iconst 0, 1) := by decide +kernel
theorem dX6_become_5 : decode cX6_become 5 = .ok (.aload_n 0, 1) := by decide +kernel
theorem dX6_become_6 : decode cX6_become 6 = .ok (.getfield 9, 3) := by decide +kernel
theorem dX6_become_9 : decode cX6_become 9 = .ok (.iconst 0, 1) := by decide +kernel
theorem dX6_become_10 : decode cX6_become 10 = .ok (.aload_n 0, 1) := by decide +kernel
theorem dX6_become_11 : decode cX6_become 11 = .ok (.getfield 9, 3) := by decide +kernel
theorem dX6_become_14 : decode cX6_become 14 = .ok (.arraylength, 1) := by decide +kernel
theorem dX6_become_15 : decode cX6_become 15 = .ok (.invokestatic 23, 3) := by decide +kernel
theorem dX6_become_18 : decode cX6_become 18 = .ok (.return_, 1) := by decide +kernel
theorem dX6_copyRoot_0 : decode cX6_copyRoot 0 = .ok (.aload_n 0, 1) := by decide +kernel
theorem dX6_copyRoot_1 : decode cX6_copyRoot 1 = .ok (.getfield 9, 3) := by decide +kernel
theorem dX6_copyRoot_4 : decode cX6_copyRoot 4 = .ok (.bipush 32, 2) := by decide +kernel
theorem dX6_copyRoot_6 : decode cX6_copyRoot 6 = .ok (.aload_n 1, 1) := by decide +kernel
theorem dX6_copyRoot_7 : decode cX6_copyRoot 7 = .ok (.iload_n 2, 1) := by decide +kernel
theorem dX6_copyRoot_8 : decode cX6_copyRoot 8 = .ok (.bipush 32, 2) := by decide +kernel
theorem dX6_copyRoot_10 : decode cX6_copyRoot 10 = .ok (.invokestatic 23, 3) := by decide +kernel
theorem dX6_copyRoot_13 : decode cX6_copyRoot 13 = .ok (.return_, 1) := by decide +kernel
set_option maxRecDepth 20000 in
theorem ggX6_hasRoot_X8_sameRow : GoodIn wsX6_hasRoot wsX8_sameRow := goodIn_r _ [4] (by decide +kernel) (by decide +kernel)
set_option maxRecDepth 20000 in
theorem gX6_hasRoot_X8_sameRow_n29 : GoodIn wsX6_hasRoot (wsX8_sameRow) := ggX6_hasRoot_X8_sameRow
theorem dX6_hasRoot_0 : decode cX6_hasRoot 0 = .ok (.aload_n 0, 1) := by decide +kernel
theorem dX6_hasRoot_1 : decode cX6_hasRoot 1 = .ok (.getfield 9, 3) := by decide +kernel
theorem dX6_hasRoot_4 : decode cX6_hasRoot 4 = .ok (.bipush 32, 2) := by decide +kernel
theorem dX6_hasRoot_6 : decode cX6_hasRoot 6 = .ok (.aload_n 1, 1) := by decide +kernel
theorem dX6_hasRoot_7 : decode cX6_hasRoot 7 = .ok (.iload_n 2, 1) := by decide +kernel
theorem dX6_hasRoot_8 : decode cX6_hasRoot 8 = .ok (.bipush 32, 2) := by decide +kernel
theorem dX6_hasRoot_10 : decode cX6_hasRoot 10 = .ok (.invokestatic 29, 3) := by decide +kernel
theorem dX6_hasRoot_13 : decode cX6_hasRoot 13 = .ok (.ireturn, 1) := by decide +kernel
set_option maxRecDepth 20000 in
theorem ggX6_setLeaf_X4_start : GoodIn wsX6_setLeaf wsX4_start := goodIn_r _ [8, 9, 10, 11, 12, 13, 14, 15, 16, 44, 45, 46, 47] (by decide +kernel) (by decide +kernel)
set_option maxRecDepth 20000 in
theorem gX6_setLeaf_X4_start : GoodIn wsX6_setLeaf (wsV RX6 33 RX4 yX4_start wsX4_start) := goodIn_app (goodIn_of _ (by decide +kernel)) ggX6_setLeaf_X4_start
set_option maxRecDepth 20000 in
theorem ggX6_setLeaf_X4_take : GoodIn wsX6_setLeaf wsX4_take := goodIn_r _ [20, 21, 15, 16, 22, 23, 24, 7, 25, 26, 27, 28, 29, 10, 30, 44, 45, 46, 47] (by decide +kernel) (by decide +kernel)
set_option maxRecDepth 20000 in
theorem gX6_setLeaf_X4_take : GoodIn wsX6_setLeaf (wsV RX6 38 RX4 yX4_take wsX4_take) := goodIn_app (goodIn_of _ (by decide +kernel)) ggX6_setLeaf_X4_take
set_option maxRecDepth 20000 in
theorem ggX6_setLeaf_X4_takeRow : GoodIn wsX6_setLeaf wsX4_takeRow := goodIn_r _ [34, 35, 18, 19, 7, 20, 21, 15, 16, 22, 23, 24, 25, 26, 27, 28, 29, 10, 30, 44, 45, 46, 47] (by decide +kernel) (by decide +kernel)
set_option maxRecDepth 20000 in
theorem gX6_setLeaf_X4_takeRow : GoodIn wsX6_setLeaf (wsV RX6 50 RX4 yX4_takeRow wsX4_takeRow) := goodIn_app (goodIn_of _ (by decide +kernel)) ggX6_setLeaf_X4_takeRow
set_option maxRecDepth 20000 in
theorem ggX6_setLeaf_X4_finish : GoodIn wsX6_setLeaf wsX4_finish := goodIn_r _ [39, 40, 16, 15, 10, 35, 18, 19, 7, 20, 21, 22, 23, 24, 25, 26, 27, 28, 29, 30, 44, 45, 46, 47] (by decide +kernel) (by decide +kernel)
set_option maxRecDepth 20000 in
theorem gX6_setLeaf_X4_finish : GoodIn wsX6_setLeaf (wsV RX6 54 RX4 yX4_finish wsX4_finish) := goodIn_app (goodIn_of _ (by decide +kernel)) ggX6_setLeaf_X4_finish
theorem dX6_setLeaf_0 : decode cX6_setLeaf 0 = .ok (.aload_n 3, 1) := by decide +kernel
theorem dX6_setLeaf_1 : decode cX6_setLeaf 1 = .ok (.invokevirtual 33, 3) := by decide +kernel
theorem dX6_setLeaf_4 : decode cX6_setLeaf 4 = .ok (.aload_n 3, 1) := by decide +kernel
theorem dX6_setLeaf_5 : decode cX6_setLeaf 5 = .ok (.iconst 0, 1) := by decide +kernel
theorem dX6_setLeaf_6 : decode cX6_setLeaf 6 = .ok (.invokevirtual 38, 3) := by decide +kernel
theorem dX6_setLeaf_9 : decode cX6_setLeaf 9 = .ok (.aload_n 3, 1) := by decide +kernel
theorem dX6_setLeaf_10 : decode cX6_setLeaf 10 = .ok (.iload_n 2, 1) := by decide +kernel
theorem dX6_setLeaf_11 : decode cX6_setLeaf 11 = .ok (.invokevirtual 38, 3) := by decide +kernel
theorem dX6_setLeaf_14 : decode cX6_setLeaf 14 = .ok (.aload_n 3, 1) := by decide +kernel
theorem dX6_setLeaf_15 : decode cX6_setLeaf 15 = .ok (.aload_n 1, 1) := by decide +kernel
theorem dX6_setLeaf_16 : decode cX6_setLeaf 16 = .ok (.getfield 42, 3) := by decide +kernel
theorem dX6_setLeaf_19 : decode cX6_setLeaf 19 = .ok (.iload_n 2, 1) := by decide +kernel
theorem dX6_setLeaf_20 : decode cX6_setLeaf 20 = .ok (.iaload, 1) := by decide +kernel
theorem dX6_setLeaf_21 : decode cX6_setLeaf 21 = .ok (.invokevirtual 38, 3) := by decide +kernel
theorem dX6_setLeaf_24 : decode cX6_setLeaf 24 = .ok (.aload_n 3, 1) := by decide +kernel
theorem dX6_setLeaf_25 : decode cX6_setLeaf 25 = .ok (.aload_n 1, 1) := by decide +kernel
theorem dX6_setLeaf_26 : decode cX6_setLeaf 26 = .ok (.getfield 47, 3) := by decide +kernel
theorem dX6_setLeaf_29 : decode cX6_setLeaf 29 = .ok (.iload_n 2, 1) := by decide +kernel
theorem dX6_setLeaf_30 : decode cX6_setLeaf 30 = .ok (.bipush 12, 2) := by decide +kernel
theorem dX6_setLeaf_32 : decode cX6_setLeaf 32 = .ok (.imul, 1) := by decide +kernel
theorem dX6_setLeaf_33 : decode cX6_setLeaf 33 = .ok (.aload_n 1, 1) := by decide +kernel
theorem dX6_setLeaf_34 : decode cX6_setLeaf 34 = .ok (.getfield 42, 3) := by decide +kernel
theorem dX6_setLeaf_37 : decode cX6_setLeaf 37 = .ok (.iload_n 2, 1) := by decide +kernel
theorem dX6_setLeaf_38 : decode cX6_setLeaf 38 = .ok (.iaload, 1) := by decide +kernel
theorem dX6_setLeaf_39 : decode cX6_setLeaf 39 = .ok (.invokevirtual 50, 3) := by decide +kernel
theorem dX6_setLeaf_42 : decode cX6_setLeaf 42 = .ok (.aload_n 3, 1) := by decide +kernel
theorem dX6_setLeaf_43 : decode cX6_setLeaf 43 = .ok (.aload_n 0, 1) := by decide +kernel
theorem dX6_setLeaf_44 : decode cX6_setLeaf 44 = .ok (.getfield 9, 3) := by decide +kernel
theorem dX6_setLeaf_47 : decode cX6_setLeaf 47 = .ok (.bipush 16, 2) := by decide +kernel
theorem dX6_setLeaf_49 : decode cX6_setLeaf 49 = .ok (.iload_n 2, 1) := by decide +kernel
theorem dX6_setLeaf_50 : decode cX6_setLeaf 50 = .ok (.iadd, 1) := by decide +kernel
theorem dX6_setLeaf_51 : decode cX6_setLeaf 51 = .ok (.bipush 32, 2) := by decide +kernel
theorem dX6_setLeaf_53 : decode cX6_setLeaf 53 = .ok (.imul, 1) := by decide +kernel
theorem dX6_setLeaf_54 : decode cX6_setLeaf 54 = .ok (.invokevirtual 54, 3) := by decide +kernel
theorem dX6_setLeaf_57 : decode cX6_setLeaf 57 = .ok (.return_, 1) := by decide +kernel
set_option maxRecDepth 20000 in
theorem ggX6_setNode_X4_start : GoodIn wsX6_setNode wsX4_start := goodIn_r _ [6, 7, 8, 9, 10, 11, 12, 13, 14, 40, 41, 42, 43] (by decide +kernel) (by decide +kernel)
set_option maxRecDepth 20000 in
theorem gX6_setNode_X4_start : GoodIn wsX6_setNode (wsV RX6 33 RX4 yX4_start wsX4_start) := goodIn_app (goodIn_of _ (by decide +kernel)) ggX6_setNode_X4_start
set_option maxRecDepth 20000 in
theorem ggX6_setNode_X4_take : GoodIn wsX6_setNode wsX4_take := goodIn_r _ [18, 19, 13, 14, 20, 21, 22, 5, 23, 24, 25, 26, 27, 8, 28, 40, 41, 42, 43] (by decide +kernel) (by decide +kernel)
set_option maxRecDepth 20000 in
theorem gX6_setNode_X4_take : GoodIn wsX6_setNode (wsV RX6 38 RX4 yX4_take wsX4_take) := goodIn_app (goodIn_of _ (by decide +kernel)) ggX6_setNode_X4_take
set_option maxRecDepth 20000 in
theorem ggX6_setNode_X4_takeRow : GoodIn wsX6_setNode wsX4_takeRow := goodIn_r _ [32, 33, 16, 17, 5, 18, 19, 13, 14, 20, 21, 22, 23, 24, 25, 26, 27, 8, 28, 40, 41, 42, 43] (by decide +kernel) (by decide +kernel)
set_option maxRecDepth 20000 in
theorem gX6_setNode_X4_takeRow : GoodIn wsX6_setNode (wsV RX6 50 RX4 yX4_takeRow wsX4_takeRow) := goodIn_app (goodIn_of _ (by decide +kernel)) ggX6_setNode_X4_takeRow
set_option maxRecDepth 20000 in
theorem ggX6_setNode_X4_finish : GoodIn wsX6_setNode wsX4_finish := goodIn_r _ [37, 38, 14, 13, 8, 33, 16, 17, 5, 18, 19, 20, 21, 22, 23, 24, 25, 26, 27, 28, 40, 41, 42, 43] (by decide +kernel) (by decide +kernel)
set_option maxRecDepth 20000 in
theorem gX6_setNode_X4_finish : GoodIn wsX6_setNode (wsV RX6 54 RX4 yX4_finish wsX4_finish) := goodIn_app (goodIn_of _ (by decide +kernel)) ggX6_setNode_X4_finish
theorem dX6_setNode_0 : decode cX6_setNode 0 = .ok (.aload_n 2, 1) := by decide +kernel
theorem dX6_setNode_1 : decode cX6_setNode 1 = .ok (.invokevirtual 33, 3) := by decide +kernel
theorem dX6_setNode_4 : decode cX6_setNode 4 = .ok (.aload_n 2, 1) := by decide +kernel
theorem dX6_setNode_5 : decode cX6_setNode 5 = .ok (.iconst 1, 1) := by decide +kernel
theorem dX6_setNode_6 : decode cX6_setNode 6 = .ok (.invokevirtual 38, 3) := by decide +kernel
theorem dX6_setNode_9 : decode cX6_setNode 9 = .ok (.aload_n 2, 1) := by decide +kernel
theorem dX6_setNode_10 : decode cX6_setNode 10 = .ok (.aload_n 0, 1) := by decide +kernel
theorem dX6_setNode_11 : decode cX6_setNode 11 = .ok (.getfield 9, 3) := by decide +kernel
theorem dX6_setNode_14 : decode cX6_setNode 14 = .ok (.iconst 2, 1) := by decide +kernel
theorem dX6_setNode_15 : decode cX6_setNode 15 = .ok (.iload_n 1, 1) := by decide +kernel
theorem dX6_setNode_16 : decode cX6_setNode 16 = .ok (.imul, 1) := by decide +kernel
theorem dX6_setNode_17 : decode cX6_setNode 17 = .ok (.bipush 32, 2) := by decide +kernel
theorem dX6_setNode_19 : decode cX6_setNode 19 = .ok (.imul, 1) := by decide +kernel
theorem dX6_setNode_20 : decode cX6_setNode 20 = .ok (.bipush 64, 2) := by decide +kernel
theorem dX6_setNode_22 : decode cX6_setNode 22 = .ok (.invokevirtual 50, 3) := by decide +kernel
theorem dX6_setNode_25 : decode cX6_setNode 25 = .ok (.aload_n 2, 1) := by decide +kernel
theorem dX6_setNode_26 : decode cX6_setNode 26 = .ok (.aload_n 0, 1) := by decide +kernel
theorem dX6_setNode_27 : decode cX6_setNode 27 = .ok (.getfield 9, 3) := by decide +kernel
theorem dX6_setNode_30 : decode cX6_setNode 30 = .ok (.iload_n 1, 1) := by decide +kernel
theorem dX6_setNode_31 : decode cX6_setNode 31 = .ok (.bipush 32, 2) := by decide +kernel
theorem dX6_setNode_33 : decode cX6_setNode 33 = .ok (.imul, 1) := by decide +kernel
theorem dX6_setNode_34 : decode cX6_setNode 34 = .ok (.invokevirtual 54, 3) := by decide +kernel
theorem dX6_setNode_37 : decode cX6_setNode 37 = .ok (.return_, 1) := by decide +kernel
