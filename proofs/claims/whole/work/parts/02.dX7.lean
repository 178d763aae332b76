set_option maxRecDepth 20000 in
theorem ggX7_init_X0_init : GoodIn wsX7_init wsX0_init := goodIn_r _ [17, 18, 2, 3, 19, 20, 21, 34, 35] (by decide +kernel) (by decide +kernel)
set_option maxRecDepth 20000 in
theorem gX7_init_X0_init_n19 : GoodIn wsX7_init (wsX0_init) := ggX7_init_X0_init
set_option maxRecDepth 20000 in
theorem ggX7_init_X6_init : GoodIn wsX7_init wsX6_init := goodIn_r _ [23, 24, 2, 3, 19, 25, 36] (by decide +kernel) (by decide +kernel)
set_option maxRecDepth 20000 in
theorem gX7_init_X6_init_n26 : GoodIn wsX7_init (wsX6_init) := ggX7_init_X6_init
set_option maxRecDepth 20000 in
theorem ggX7_init_X5_init : GoodIn wsX7_init wsX5_init := goodIn_r _ [28, 29, 2, 3, 19, 30, 37] (by decide +kernel) (by decide +kernel)
set_option maxRecDepth 20000 in
theorem gX7_init_X5_init : GoodIn wsX7_init (wsX5_init) := ggX7_init_X5_init
theorem dX7_init_0 : decode cX7_init 0 = .ok (.aload_n 0, 1) := by decide +kernel
theorem dX7_init_1 : decode cX7_init 1 = .ok (.invokespecial 3, 3) := by decide +kernel
theorem dX7_init_4 : decode cX7_init 4 = .ok (.aload_n 0, 1) := by decide +kernel
theorem dX7_init_5 : decode cX7_init 5 = .ok (.iconst 4, 1) := by decide +kernel
theorem dX7_init_6 : decode cX7_init 6 = .ok (.anewarray 9, 3) := by decide +kernel
theorem dX7_init_9 : decode cX7_init 9 = .ok (.putfield 11, 3) := by decide +kernel
theorem dX7_init_12 : decode cX7_init 12 = .ok (.aload_n 0, 1) := by decide +kernel
theorem dX7_init_13 : decode cX7_init 13 = .ok (.new 17, 3) := by decide +kernel
theorem dX7_init_16 : decode cX7_init 16 = .ok (.dup, 1) := by decide +kernel
theorem dX7_init_17 : decode cX7_init 17 = .ok (.invokespecial 19, 3) := by decide +kernel
theorem dX7_init_20 : decode cX7_init 20 = .ok (.putfield 20, 3) := by decide +kernel
theorem dX7_init_23 : decode cX7_init 23 = .ok (.aload_n 0, 1) := by decide +kernel
theorem dX7_init_24 : decode cX7_init 24 = .ok (.new 24, 3) := by decide +kernel
theorem dX7_init_27 : decode cX7_init 27 = .ok (.dup, 1) := by decide +kernel
theorem dX7_init_28 : decode cX7_init 28 = .ok (.invokespecial 26, 3) := by decide +kernel
theorem dX7_init_31 : decode cX7_init 31 = .ok (.putfield 27, 3) := by decide +kernel
theorem dX7_init_34 : decode cX7_init 34 = .ok (.iconst 0, 1) := by decide +kernel
theorem dX7_init_35 : decode cX7_init 35 = .ok (.istore_n 1, 1) := by decide +kernel
theorem dX7_init_36 : decode cX7_init 36 = .ok (.iload_n 1, 1) := by decide +kernel
theorem dX7_init_37 : decode cX7_init 37 = .ok (.iconst 4, 1) := by decide +kernel
theorem dX7_init_38 : decode cX7_init 38 = .ok (.if_icmp .ge 23, 3) := by decide +kernel
theorem dX7_init_41 : decode cX7_init 41 = .ok (.aload_n 0, 1) := by decide +kernel
theorem dX7_init_42 : decode cX7_init 42 = .ok (.getfield 11, 3) := by decide +kernel
theorem dX7_init_45 : decode cX7_init 45 = .ok (.iload_n 1, 1) := by decide +kernel
theorem dX7_init_46 : decode cX7_init 46 = .ok (.new 9, 3) := by decide +kernel
theorem dX7_init_49 : decode cX7_init 49 = .ok (.dup, 1) := by decide +kernel
theorem dX7_init_50 : decode cX7_init 50 = .ok (.iload_n 1, 1) := by decide +kernel
theorem dX7_init_51 : decode cX7_init 51 = .ok (.invokespecial 31, 3) := by decide +kernel
theorem dX7_init_54 : decode cX7_init 54 = .ok (.aastore, 1) := by decide +kernel
theorem dX7_init_55 : decode cX7_init 55 = .ok (.iinc 1 1, 3) := by decide +kernel
theorem dX7_init_58 : decode cX7_init 58 = .ok (.goto (-22), 3) := by decide +kernel
theorem dX7_init_61 : decode cX7_init 61 = .ok (.return_, 1) := by decide +kernel
set_option maxRecDepth 20000 in
theorem ggX7_become_X5_become : GoodIn wsX7_become wsX5_become := goodIn_r _ [8, 9, 10, 11, 12, 13, 32] (by decide +kernel) (by decide +kernel)
set_option maxRecDepth 20000 in
theorem gX7_become_X5_become : GoodIn wsX7_become (wsV RX7 34 RX5 yX5_become wsX5_become) := goodIn_app (goodIn_of _ (by decide +kernel)) ggX7_become_X5_become
set_option maxRecDepth 20000 in
theorem ggX7_become_X0_become : GoodIn wsX7_become wsX0_become := goodIn_r _ [18, 19, 20, 11, 12, 13, 21, 33, 34] (by decide +kernel) (by decide +kernel)
set_option maxRecDepth 20000 in
theorem gX7_become_X0_become : GoodIn wsX7_become (wsV RX7 38 RX0 yX0_become wsX0_become) := goodIn_app (goodIn_of _ (by decide +kernel)) ggX7_become_X0_become
set_option maxRecDepth 20000 in
theorem ggX7_become_X6_become : GoodIn wsX7_become wsX6_become := goodIn_r _ [26, 27, 28, 11, 12, 13, 35] (by decide +kernel) (by decide +kernel)
set_option maxRecDepth 20000 in
theorem gX7_become_X6_become : GoodIn wsX7_become (wsV RX7 41 RX6 yX6_become wsX6_become) := goodIn_app (goodIn_of _ (by decide +kernel)) ggX7_become_X6_become
theorem dX7_become_0 : decode cX7_become 0 = .ok (.iconst 0, 1) := by decide +kernel
theorem dX7_become_1 : decode cX7_become 1 = .ok (.istore_n 2, 1) := by decide +kernel
theorem dX7_become_2 : decode cX7_become 2 = .ok (.iload_n 2, 1) := by decide +kernel
theorem dX7_become_3 : decode cX7_become 3 = .ok (.iconst 4, 1) := by decide +kernel
theorem dX7_become_4 : decode cX7_become 4 = .ok (.if_icmp .ge 24, 3) := by decide +kernel
theorem dX7_become_7 : decode cX7_become 7 = .ok (.aload_n 0, 1) := by decide +kernel
theorem dX7_become_8 : decode cX7_become 8 = .ok (.getfield 11, 3) := by decide +kernel
theorem dX7_become_11 : decode cX7_become 11 = .ok (.iload_n 2, 1) := by decide +kernel
theorem dX7_become_12 : decode cX7_become 12 = .ok (.aaload, 1) := by decide +kernel
theorem dX7_become_13 : decode cX7_become 13 = .ok (.aload_n 1, 1) := by decide +kernel
theorem dX7_become_14 : decode cX7_become 14 = .ok (.getfield 11, 3) := by decide +kernel
theorem dX7_become_17 : decode cX7_become 17 = .ok (.iload_n 2, 1) := by decide +kernel
theorem dX7_become_18 : decode cX7_become 18 = .ok (.aaload, 1) := by decide +kernel
theorem dX7_become_19 : decode cX7_become 19 = .ok (.invokevirtual 34, 3) := by decide +kernel
theorem dX7_become_22 : decode cX7_become 22 = .ok (.iinc 2 1, 3) := by decide +kernel
theorem dX7_become_25 : decode cX7_become 25 = .ok (.goto (-23), 3) := by decide +kernel
theorem dX7_become_28 : decode cX7_become 28 = .ok (.aload_n 0, 1) := by decide +kernel
theorem dX7_become_29 : decode cX7_become 29 = .ok (.getfield 20, 3) := by decide +kernel
theorem dX7_become_32 : decode cX7_become 32 = .ok (.aload_n 1, 1) := by decide +kernel
theorem dX7_become_33 : decode cX7_become 33 = .ok (.getfield 20, 3) := by decide +kernel
theorem dX7_become_36 : decode cX7_become 36 = .ok (.invokevirtual 38, 3) := by decide +kernel
theorem dX7_become_39 : decode cX7_become 39 = .ok (.aload_n 0, 1) := by decide +kernel
theorem dX7_become_40 : decode cX7_become 40 = .ok (.getfield 27, 3) := by decide +kernel
theorem dX7_become_43 : decode cX7_become 43 = .ok (.aload_n 1, 1) := by decide +kernel
theorem dX7_become_44 : decode cX7_become 44 = .ok (.getfield 27, 3) := by decide +kernel
theorem dX7_become_47 : decode cX7_become 47 = .ok (.invokevirtual 41, 3) := by decide +kernel
theorem dX7_become_50 : decode cX7_become 50 = .ok (.return_, 1) := by decide +kernel
set_option maxRecDepth 20000 in
theorem ggX7_put_X0_put : GoodIn wsX7_put wsX0_put := goodIn_r _ [7, 8, 9, 10, 11, 12, 13, 67, 68] (by decide +kernel) (by decide +kernel)
set_option maxRecDepth 20000 in
theorem gX7_put_X0_put : GoodIn wsX7_put (wsV RX7 44 RX0 yX0_put wsX0_put) := goodIn_app (goodIn_of _ (by decide +kernel)) ggX7_put_X0_put
set_option maxRecDepth 20000 in
theorem ggX7_put_X6_refresh : GoodIn wsX7_put wsX6_refresh := goodIn_r _ [18, 19, 20, 21, 17, 22, 23, 24, 25, 26, 27, 28, 29, 30, 31, 32, 33, 10, 11, 12, 34, 35, 36, 37, 38, 39, 40, 41, 42, 43, 44, 45, 46, 47, 48, 49, 50, 51, 52, 53, 54, 55, 56, 57, 58, 59, 60, 61, 62, 63, 67, 68, 69, 70, 71, 72, 73] (by decide +kernel) (by decide +kernel)
set_option maxRecDepth 20000 in
theorem gX7_put_X6_refresh : GoodIn wsX7_put (wsV RX7 48 RX6 yX6_refresh wsX6_refresh) := goodIn_app (goodIn_of _ (by decide +kernel)) ggX7_put_X6_refresh
theorem dX7_put_0 : decode cX7_put 0 = .ok (.aload_n 0, 1) := by decide +kernel
theorem dX7_put_1 : decode cX7_put 1 = .ok (.getfield 20, 3) := by decide +kernel
theorem dX7_put_4 : decode cX7_put 4 = .ok (.iload_n 1, 1) := by decide +kernel
theorem dX7_put_5 : decode cX7_put 5 = .ok (.aload_n 2, 1) := by decide +kernel
theorem dX7_put_6 : decode cX7_put 6 = .ok (.iload_n 3, 1) := by decide +kernel
theorem dX7_put_7 : decode cX7_put 7 = .ok (.invokevirtual 44, 3) := by decide +kernel
theorem dX7_put_10 : decode cX7_put 10 = .ok (.aload_n 0, 1) := by decide +kernel
theorem dX7_put_11 : decode cX7_put 11 = .ok (.getfield 27, 3) := by decide +kernel
theorem dX7_put_14 : decode cX7_put 14 = .ok (.aload_n 0, 1) := by decide +kernel
theorem dX7_put_15 : decode cX7_put 15 = .ok (.getfield 20, 3) := by decide +kernel
theorem dX7_put_18 : decode cX7_put 18 = .ok (.iload_n 1, 1) := by decide +kernel
theorem dX7_put_19 : decode cX7_put 19 = .ok (.aload 4, 2) := by decide +kernel
theorem dX7_put_21 : decode cX7_put 21 = .ok (.invokevirtual 48, 3) := by decide +kernel
theorem dX7_put_24 : decode cX7_put 24 = .ok (.return_, 1) := by decide +kernel
set_option maxRecDepth 20000 in
theorem ggX7_flip_X6_refresh : GoodIn wsX7_flip wsX6_refresh := goodIn_r _ [8, 9, 10, 11, 7, 12, 13, 14, 15, 16, 17, 18, 19, 20, 21, 22, 23, 24, 25, 26, 27, 28, 29, 30, 31, 32, 33, 34, 35, 36, 37, 38, 39, 40, 41, 42, 43, 44, 45, 46, 47, 48, 49, 50, 51, 52, 53, 54, 55, 56, 60, 61, 62, 63, 64, 65, 66] (by decide +kernel) (by decide +kernel)
set_option maxRecDepth 20000 in
theorem gX7_flip_X6_refresh : GoodIn wsX7_flip (wsV RX7 48 RX6 yX6_refresh wsX6_refresh) := goodIn_app (goodIn_of _ (by decide +kernel)) ggX7_flip_X6_refresh
theorem dX7_flip_0 : decode cX7_flip 0 = .ok (.aload_n 0, 1) := by decide +kernel
theorem dX7_flip_1 : decode cX7_flip 1 = .ok (.getfield 20, 3) := by decide +kernel
theorem dX7_flip_4 : decode cX7_flip 4 = .ok (.getfield 52, 3) := by decide +kernel
theorem dX7_flip_7 : decode cX7_flip 7 = .ok (.iload_n 1, 1) := by decide +kernel
theorem dX7_flip_8 : decode cX7_flip 8 = .ok (.bipush 12, 2) := by decide +kernel
theorem dX7_flip_10 : decode cX7_flip 10 = .ok (.imul, 1) := by decide +kernel
theorem dX7_flip_11 : decode cX7_flip 11 = .ok (.iload_n 2, 1) := by decide +kernel
theorem dX7_flip_12 : decode cX7_flip 12 = .ok (.iadd, 1) := by decide +kernel
theorem dX7_flip_13 : decode cX7_flip 13 = .ok (.dup2, 1) := by decide +kernel
theorem dX7_flip_14 : decode cX7_flip 14 = .ok (.iaload, 1) := by decide +kernel
theorem dX7_flip_15 : decode cX7_flip 15 = .ok (.iload_n 3, 1) := by decide +kernel
theorem dX7_flip_16 : decode cX7_flip 16 = .ok (.ixor, 1) := by decide +kernel
theorem dX7_flip_17 : decode cX7_flip 17 = .ok (.iastore, 1) := by decide +kernel
theorem dX7_flip_18 : decode cX7_flip 18 = .ok (.aload_n 0, 1) := by decide +kernel
theorem dX7_flip_19 : decode cX7_flip 19 = .ok (.getfield 27, 3) := by decide +kernel
theorem dX7_flip_22 : decode cX7_flip 22 = .ok (.aload_n 0, 1) := by decide +kernel
theorem dX7_flip_23 : decode cX7_flip 23 = .ok (.getfield 20, 3) := by decide +kernel
theorem dX7_flip_26 : decode cX7_flip 26 = .ok (.iload_n 1, 1) := by decide +kernel
theorem dX7_flip_27 : decode cX7_flip 27 = .ok (.aload 4, 2) := by decide +kernel
theorem dX7_flip_29 : decode cX7_flip 29 = .ok (.invokevirtual 48, 3) := by decide +kernel
theorem dX7_flip_32 : decode cX7_flip 32 = .ok (.return_, 1) := by decide +kernel
set_option maxRecDepth 20000 in
theorem ggX7_isInLine_X5_isInLineWith : GoodIn wsX7_isInLine wsX5_isInLineWith := goodIn_r _ [6, 7, 8, 9, 5, 10, 11, 12, 13, 14, 15, 19] (by decide +kernel) (by decide +kernel)
set_option maxRecDepth 20000 in
theorem gX7_isInLine_X5_isInLineWith : GoodIn wsX7_isInLine (wsV RX7 56 RX5 yX5_isInLineWith wsX5_isInLineWith) := goodIn_app (goodIn_of _ (by decide +kernel)) ggX7_isInLine_X5_isInLineWith
theorem dX7_isInLine_0 : decode cX7_isInLine 0 = .ok (.iconst 0, 1) := by decide +kernel
theorem dX7_isInLine_1 : decode cX7_isInLine 1 = .ok (.istore_n 1, 1) := by decide +kernel
theorem dX7_isInLine_2 : decode cX7_isInLine 2 = .ok (.iload_n 1, 1) := by decide +kernel
theorem dX7_isInLine_3 : decode cX7_isInLine 3 = .ok (.iconst 4, 1) := by decide +kernel
theorem dX7_isInLine_4 : decode cX7_isInLine 4 = .ok (.if_icmp .ge 44, 3) := by decide +kernel
theorem dX7_isInLine_7 : decode cX7_isInLine 7 = .ok (.iload_n 1, 1) := by decide +kernel
theorem dX7_isInLine_8 : decode cX7_isInLine 8 = .ok (.iconst 1, 1) := by decide +kernel
theorem dX7_isInLine_9 : decode cX7_isInLine 9 = .ok (.iadd, 1) := by decide +kernel
theorem dX7_isInLine_10 : decode cX7_isInLine 10 = .ok (.istore_n 2, 1) := by decide +kernel
theorem dX7_isInLine_11 : decode cX7_isInLine 11 = .ok (.iload_n 2, 1) := by decide +kernel
theorem dX7_isInLine_12 : decode cX7_isInLine 12 = .ok (.iconst 4, 1) := by decide +kernel
theorem dX7_isInLine_13 : decode cX7_isInLine 13 = .ok (.if_icmp .ge 29, 3) := by decide +kernel
theorem dX7_isInLine_16 : decode cX7_isInLine 16 = .ok (.aload_n 0, 1) := by decide +kernel
theorem dX7_isInLine_17 : decode cX7_isInLine 17 = .ok (.getfield 11, 3) := by decide +kernel
theorem dX7_isInLine_20 : decode cX7_isInLine 20 = .ok (.iload_n 1, 1) := by decide +kernel
theorem dX7_isInLine_21 : decode cX7_isInLine 21 = .ok (.aaload, 1) := by decide +kernel
theorem dX7_isInLine_22 : decode cX7_isInLine 22 = .ok (.aload_n 0, 1) := by decide +kernel
theorem dX7_isInLine_23 : decode cX7_isInLine 23 = .ok (.getfield 11, 3) := by decide +kernel
theorem dX7_isInLine_26 : decode cX7_isInLine 26 = .ok (.iload_n 2, 1) := by decide +kernel
theorem dX7_isInLine_27 : decode cX7_isInLine 27 = .ok (.aaload, 1) := by decide +kernel
theorem dX7_isInLine_28 : decode cX7_isInLine 28 = .ok (.invokevirtual 56, 3) := by decide +kernel
theorem dX7_isInLine_31 : decode cX7_isInLine 31 = .ok (.ifCond .ne 5, 3) := by decide +kernel
theorem dX7_isInLine_34 : decode cX7_isInLine 34 = .ok (.iconst 0, 1) := by decide +kernel
theorem dX7_isInLine_35 : decode cX7_isInLine 35 = .ok (.ireturn, 1) := by decide +kernel
theorem dX7_isInLine_36 : decode cX7_isInLine 36 = .ok (.iinc 2 1, 3) := by decide +kernel
theorem dX7_isInLine_39 : decode cX7_isInLine 39 = .ok (.goto (-28), 3) := by decide +kernel
theorem dX7_isInLine_42 : decode cX7_isInLine 42 = .ok (.iinc 1 1, 3) := by decide +kernel
theorem dX7_isInLine_45 : decode cX7_isInLine 45 = .ok (.goto (-43), 3) := by decide +kernel
theorem dX7_isInLine_48 : decode cX7_isInLine 48 = .ok (.iconst 1, 1) := by decide +kernel
theorem dX7_isInLine_49 : decode cX7_isInLine 49 = .ok (.ireturn, 1) := by decide +kernel
set_option maxRecDepth 20000 in
theorem ggX7_greatest_X5_isNotAbove : GoodIn wsX7_greatest wsX5_isNotAbove := goodIn_r _ [6, 7, 8, 9, 5, 10, 11, 15] (by decide +kernel) (by decide +kernel)
set_option maxRecDepth 20000 in
theorem gX7_greatest_X5_isNotAbove : GoodIn wsX7_greatest (wsV RX7 60 RX5 yX5_isNotAbove wsX5_isNotAbove) := goodIn_app (goodIn_of _ (by decide +kernel)) ggX7_greatest_X5_isNotAbove
theorem dX7_greatest_0 : decode cX7_greatest 0 = .ok (.aload_n 0, 1) := by decide +kernel
theorem dX7_greatest_1 : decode cX7_greatest 1 = .ok (.getfield 11, 3) := by decide +kernel
theorem dX7_greatest_4 : decode cX7_greatest 4 = .ok (.iconst 0, 1) := by decide +kernel
theorem dX7_greatest_5 : decode cX7_greatest 5 = .ok (.aaload, 1) := by decide +kernel
theorem dX7_greatest_6 : decode cX7_greatest 6 = .ok (.astore_n 1, 1) := by decide +kernel
theorem dX7_greatest_7 : decode cX7_greatest 7 = .ok (.iconst 1, 1) := by decide +kernel
theorem dX7_greatest_8 : decode cX7_greatest 8 = .ok (.istore_n 2, 1) := by decide +kernel
theorem dX7_greatest_9 : decode cX7_greatest 9 = .ok (.iload_n 2, 1) := by decide +kernel
theorem dX7_greatest_10 : decode cX7_greatest 10 = .ok (.iconst 4, 1) := by decide +kernel
theorem dX7_greatest_11 : decode cX7_greatest 11 = .ok (.if_icmp .ge 29, 3) := by decide +kernel
theorem dX7_greatest_14 : decode cX7_greatest 14 = .ok (.aload_n 0, 1) := by decide +kernel
theorem dX7_greatest_15 : decode cX7_greatest 15 = .ok (.getfield 11, 3) := by decide +kernel
theorem dX7_greatest_18 : decode cX7_greatest 18 = .ok (.iload_n 2, 1) := by decide +kernel
theorem dX7_greatest_19 : decode cX7_greatest 19 = .ok (.aaload, 1) := by decide +kernel
theorem dX7_greatest_20 : decode cX7_greatest 20 = .ok (.aload_n 1, 1) := by decide +kernel
theorem dX7_greatest_21 : decode cX7_greatest 21 = .ok (.invokevirtual 60, 3) := by decide +kernel
theorem dX7_greatest_24 : decode cX7_greatest 24 = .ok (.ifCond .ne 10, 3) := by decide +kernel
theorem dX7_greatest_27 : decode cX7_greatest 27 = .ok (.aload_n 0, 1) := by decide +kernel
theorem dX7_greatest_28 : decode cX7_greatest 28 = .ok (.getfield 11, 3) := by decide +kernel
theorem dX7_greatest_31 : decode cX7_greatest 31 = .ok (.iload_n 2, 1) := by decide +kernel
theorem dX7_greatest_32 : decode cX7_greatest 32 = .ok (.aaload, 1) := by decide +kernel
theorem dX7_greatest_33 : decode cX7_greatest 33 = .ok (.astore_n 1, 1) := by decide +kernel
theorem dX7_greatest_34 : decode cX7_greatest 34 = .ok (.iinc 2 1, 3) := by decide +kernel
theorem dX7_greatest_37 : decode cX7_greatest 37 = .ok (.goto (-28), 3) := by decide +kernel
theorem dX7_greatest_40 : decode cX7_greatest 40 = .ok (.aload_n 1, 1) := by decide +kernel
theorem dX7_greatest_41 : decode cX7_greatest 41 = .ok (.areturn, 1) := by decide +kernel
