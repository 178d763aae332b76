set_option maxRecDepth 20000 in
theorem ggX2_init_X4_init : GoodIn wsX2_init wsX4_init := goodIn_r _ [11, 12, 2, 3, 8, 13, 14, 15, 16, 17, 18, 19, 20] (by decide +kernel) (by decide +kernel)
set_option maxRecDepth 20000 in
theorem gX2_init_X4_init_n11 : GoodIn wsX2_init (wsX4_init) := ggX2_init_X4_init
theorem dX2_init_0 : decode cX2_init 0 = .ok (.aload_n 0, 1) := by decide +kernel
theorem dX2_init_1 : decode cX2_init 1 = .ok (.invokespecial 3, 3) := by decide +kernel
theorem dX2_init_4 : decode cX2_init 4 = .ok (.aload_n 0, 1) := by decide +kernel
theorem dX2_init_5 : decode cX2_init 5 = .ok (.new 9, 3) := by decide +kernel
theorem dX2_init_8 : decode cX2_init 8 = .ok (.dup, 1) := by decide +kernel
theorem dX2_init_9 : decode cX2_init 9 = .ok (.invokespecial 11, 3) := by decide +kernel
theorem dX2_init_12 : decode cX2_init 12 = .ok (.putfield 12, 3) := by decide +kernel
theorem dX2_init_15 : decode cX2_init 15 = .ok (.aload_n 0, 1) := by decide +kernel
theorem dX2_init_16 : decode cX2_init 16 = .ok (.bipush 32, 2) := by decide +kernel
theorem dX2_init_18 : decode cX2_init 18 = .ok (.newarray .int, 2) := by decide +kernel
theorem dX2_init_20 : decode cX2_init 20 = .ok (.putfield 18, 3) := by decide +kernel
theorem dX2_init_23 : decode cX2_init 23 = .ok (.return_, 1) := by decide +kernel
set_option maxRecDepth 20000 in
theorem ggX2_make_X2_startWithKey : GoodIn wsX2_make wsX2_startWithKey := goodIn_r _ [7, 1, 8, 9, 10, 11, 12, 13, 14, 15, 16, 17, 18, 19, 20, 21, 22, 23, 24, 25, 26, 27, 28, 29, 30, 31, 32, 33, 34, 45, 46, 47, 48, 49, 50] (by decide +kernel) (by decide +kernel)
set_option maxRecDepth 20000 in
theorem gX2_make_X2_startWithKey : GoodIn wsX2_make (wsV RX2 22 RX2 yX2_startWithKey wsX2_startWithKey) := goodIn_app (goodIn_of _ (by decide +kernel)) ggX2_make_X2_startWithKey
set_option maxRecDepth 20000 in
theorem ggX2_make_X4_takeRow : GoodIn wsX2_make wsX4_takeRow := goodIn_r _ [38, 39, 22, 23, 11, 24, 25, 19, 20, 26, 27, 28, 29, 30, 31, 32, 33, 14, 34, 47, 48, 49, 50] (by decide +kernel) (by decide +kernel)
set_option maxRecDepth 20000 in
theorem gX2_make_X4_takeRow : GoodIn wsX2_make (wsV RX2 26 RX4 yX4_takeRow wsX4_takeRow) := goodIn_app (goodIn_of _ (by decide +kernel)) ggX2_make_X4_takeRow
set_option maxRecDepth 20000 in
theorem ggX2_make_X4_finish : GoodIn wsX2_make wsX4_finish := goodIn_r _ [43, 44, 20, 19, 14, 39, 22, 23, 11, 24, 25, 26, 27, 28, 29, 30, 31, 32, 33, 34, 47, 48, 49, 50] (by decide +kernel) (by decide +kernel)
set_option maxRecDepth 20000 in
theorem gX2_make_X4_finish : GoodIn wsX2_make (wsV RX2 30 RX4 yX4_finish wsX4_finish) := goodIn_app (goodIn_of _ (by decide +kernel)) ggX2_make_X4_finish
theorem dX2_make_0 : decode cX2_make 0 = .ok (.aload_n 0, 1) := by decide +kernel
theorem dX2_make_1 : decode cX2_make 1 = .ok (.bipush 54, 2) := by decide +kernel
theorem dX2_make_3 : decode cX2_make 3 = .ok (.invokevirtual 22, 3) := by decide +kernel
theorem dX2_make_6 : decode cX2_make 6 = .ok (.aload_n 0, 1) := by decide +kernel
theorem dX2_make_7 : decode cX2_make 7 = .ok (.getfield 12, 3) := by decide +kernel
theorem dX2_make_10 : decode cX2_make 10 = .ok (.aload_n 1, 1) := by decide +kernel
theorem dX2_make_11 : decode cX2_make 11 = .ok (.iconst 0, 1) := by decide +kernel
theorem dX2_make_12 : decode cX2_make 12 = .ok (.iload_n 2, 1) := by decide +kernel
theorem dX2_make_13 : decode cX2_make 13 = .ok (.invokevirtual 26, 3) := by decide +kernel
theorem dX2_make_16 : decode cX2_make 16 = .ok (.aload_n 0, 1) := by decide +kernel
theorem dX2_make_17 : decode cX2_make 17 = .ok (.getfield 12, 3) := by decide +kernel
theorem dX2_make_20 : decode cX2_make 20 = .ok (.aload_n 0, 1) := by decide +kernel
theorem dX2_make_21 : decode cX2_make 21 = .ok (.getfield 18, 3) := by decide +kernel
theorem dX2_make_24 : decode cX2_make 24 = .ok (.iconst 0, 1) := by decide +kernel
theorem dX2_make_25 : decode cX2_make 25 = .ok (.invokevirtual 30, 3) := by decide +kernel
theorem dX2_make_28 : decode cX2_make 28 = .ok (.aload_n 0, 1) := by decide +kernel
theorem dX2_make_29 : decode cX2_make 29 = .ok (.bipush 92, 2) := by decide +kernel
theorem dX2_make_31 : decode cX2_make 31 = .ok (.invokevirtual 22, 3) := by decide +kernel
theorem dX2_make_34 : decode cX2_make 34 = .ok (.aload_n 0, 1) := by decide +kernel
theorem dX2_make_35 : decode cX2_make 35 = .ok (.getfield 12, 3) := by decide +kernel
theorem dX2_make_38 : decode cX2_make 38 = .ok (.aload_n 0, 1) := by decide +kernel
theorem dX2_make_39 : decode cX2_make 39 = .ok (.getfield 18, 3) := by decide +kernel
theorem dX2_make_42 : decode cX2_make 42 = .ok (.iconst 0, 1) := by decide +kernel
theorem dX2_make_43 : decode cX2_make 43 = .ok (.bipush 32, 2) := by decide +kernel
theorem dX2_make_45 : decode cX2_make 45 = .ok (.invokevirtual 26, 3) := by decide +kernel
theorem dX2_make_48 : decode cX2_make 48 = .ok (.aload_n 0, 1) := by decide +kernel
theorem dX2_make_49 : decode cX2_make 49 = .ok (.getfield 12, 3) := by decide +kernel
theorem dX2_make_52 : decode cX2_make 52 = .ok (.aload_n 3, 1) := by decide +kernel
theorem dX2_make_53 : decode cX2_make 53 = .ok (.iload 4, 2) := by decide +kernel
theorem dX2_make_55 : decode cX2_make 55 = .ok (.invokevirtual 30, 3) := by decide +kernel
theorem dX2_make_58 : decode cX2_make 58 = .ok (.return_, 1) := by decide +kernel
set_option maxRecDepth 20000 in
theorem ggX2_startWithKey_X4_start : GoodIn wsX2_startWithKey wsX4_start := goodIn_r _ [6, 7, 8, 9, 10, 11, 12, 13, 14, 31, 32, 33, 34] (by decide +kernel) (by decide +kernel)
set_option maxRecDepth 20000 in
theorem gX2_startWithKey_X4_start : GoodIn wsX2_startWithKey (wsV RX2 34 RX4 yX4_start wsX4_start) := goodIn_app (goodIn_of _ (by decide +kernel)) ggX2_startWithKey_X4_start
set_option maxRecDepth 20000 in
theorem ggX2_startWithKey_X4_take : GoodIn wsX2_startWithKey wsX4_take := goodIn_r _ [18, 19, 13, 14, 20, 21, 22, 5, 23, 24, 25, 26, 27, 8, 28, 31, 32, 33, 34] (by decide +kernel) (by decide +kernel)
set_option maxRecDepth 20000 in
theorem gX2_startWithKey_X4_take : GoodIn wsX2_startWithKey (wsV RX2 37 RX4 yX4_take wsX4_take) := goodIn_app (goodIn_of _ (by decide +kernel)) ggX2_startWithKey_X4_take
theorem dX2_startWithKey_0 : decode cX2_startWithKey 0 = .ok (.aload_n 0, 1) := by decide +kernel
theorem dX2_startWithKey_1 : decode cX2_startWithKey 1 = .ok (.getfield 12, 3) := by decide +kernel
theorem dX2_startWithKey_4 : decode cX2_startWithKey 4 = .ok (.invokevirtual 34, 3) := by decide +kernel
theorem dX2_startWithKey_7 : decode cX2_startWithKey 7 = .ok (.iconst 0, 1) := by decide +kernel
theorem dX2_startWithKey_8 : decode cX2_startWithKey 8 = .ok (.istore_n 2, 1) := by decide +kernel
theorem dX2_startWithKey_9 : decode cX2_startWithKey 9 = .ok (.iload_n 2, 1) := by decide +kernel
theorem dX2_startWithKey_10 : decode cX2_startWithKey 10 = .ok (.bipush 64, 2) := by decide +kernel
theorem dX2_startWithKey_12 : decode cX2_startWithKey 12 = .ok (.if_icmp .ge 31, 3) := by decide +kernel
theorem dX2_startWithKey_15 : decode cX2_startWithKey 15 = .ok (.aload_n 0, 1) := by decide +kernel
theorem dX2_startWithKey_16 : decode cX2_startWithKey 16 = .ok (.getfield 12, 3) := by decide +kernel
theorem dX2_startWithKey_19 : decode cX2_startWithKey 19 = .ok (.iload_n 2, 1) := by decide +kernel
theorem dX2_startWithKey_20 : decode cX2_startWithKey 20 = .ok (.bipush 32, 2) := by decide +kernel
theorem dX2_startWithKey_22 : decode cX2_startWithKey 22 = .ok (.if_icmp .ge 9, 3) := by decide +kernel
theorem dX2_startWithKey_25 : decode cX2_startWithKey 25 = .ok (.iload_n 2, 1) := by decide +kernel
theorem dX2_startWithKey_26 : decode cX2_startWithKey 26 = .ok (.iconst 1, 1) := by decide +kernel
theorem dX2_startWithKey_27 : decode cX2_startWithKey 27 = .ok (.iadd, 1) := by decide +kernel
theorem dX2_startWithKey_28 : decode cX2_startWithKey 28 = .ok (.goto 4, 3) := by decide +kernel
theorem dX2_startWithKey_31 : decode cX2_startWithKey 31 = .ok (.iconst 0, 1) := by decide +kernel
theorem dX2_startWithKey_32 : decode cX2_startWithKey 32 = .ok (.iload_n 1, 1) := by decide +kernel
theorem dX2_startWithKey_33 : decode cX2_startWithKey 33 = .ok (.ixor, 1) := by decide +kernel
theorem dX2_startWithKey_34 : decode cX2_startWithKey 34 = .ok (.invokevirtual 37, 3) := by decide +kernel
theorem dX2_startWithKey_37 : decode cX2_startWithKey 37 = .ok (.iinc 2 1, 3) := by decide +kernel
theorem dX2_startWithKey_40 : decode cX2_startWithKey 40 = .ok (.goto (-31), 3) := by decide +kernel
theorem dX2_startWithKey_43 : decode cX2_startWithKey 43 = .ok (.return_, 1) := by decide +kernel
