theorem dX4_init_0 : decode cX4_init 0 = .ok (.aload_n 0, 1) := by decide +kernel
theorem dX4_init_1 : decode cX4_init 1 = .ok (.invokespecial 3, 3) := by decide +kernel
theorem dX4_init_4 : decode cX4_init 4 = .ok (.aload_n 0, 1) := by decide +kernel
theorem dX4_init_5 : decode cX4_init 5 = .ok (.bipush 8, 2) := by decide +kernel
theorem dX4_init_7 : decode cX4_init 7 = .ok (.newarray .int, 2) := by decide +kernel
theorem dX4_init_9 : decode cX4_init 9 = .ok (.putfield 9, 3) := by decide +kernel
theorem dX4_init_12 : decode cX4_init 12 = .ok (.aload_n 0, 1) := by decide +kernel
theorem dX4_init_13 : decode cX4_init 13 = .ok (.bipush 64, 2) := by decide +kernel
theorem dX4_init_15 : decode cX4_init 15 = .ok (.newarray .int, 2) := by decide +kernel
theorem dX4_init_17 : decode cX4_init 17 = .ok (.putfield 15, 3) := by decide +kernel
theorem dX4_init_20 : decode cX4_init 20 = .ok (.aload_n 0, 1) := by decide +kernel
theorem dX4_init_21 : decode cX4_init 21 = .ok (.iconst 0, 1) := by decide +kernel
theorem dX4_init_22 : decode cX4_init 22 = .ok (.putfield 18, 3) := by decide +kernel
theorem dX4_init_25 : decode cX4_init 25 = .ok (.aload_n 0, 1) := by decide +kernel
theorem dX4_init_26 : decode cX4_init 26 = .ok (.iconst 0, 1) := by decide +kernel
theorem dX4_init_27 : decode cX4_init 27 = .ok (.putfield 22, 3) := by decide +kernel
theorem dX4_init_30 : decode cX4_init 30 = .ok (.return_, 1) := by decide +kernel
theorem dX4_start_0 : decode cX4_start 0 = .ok (.getstatic 25, 3) := by decide +kernel
theorem dX4_start_3 : decode cX4_start 3 = .ok (.iconst 0, 1) := by decide +kernel
theorem dX4_start_4 : decode cX4_start 4 = .ok (.aload_n 0, 1) := by decide +kernel
theorem dX4_start_5 : decode cX4_start 5 = .ok (.getfield 9, 3) := by decide +kernel
theorem dX4_start_8 : decode cX4_start 8 = .ok (.iconst 0, 1) := by decide +kernel
theorem dX4_start_9 : decode cX4_start 9 = .ok (.getstatic 25, 3) := by decide +kernel
theorem dX4_start_12 : decode cX4_start 12 = .ok (.arraylength, 1) := by decide +kernel
theorem dX4_start_13 : decode cX4_start 13 = .ok (.invokestatic 28, 3) := by decide +kernel
theorem dX4_start_16 : decode cX4_start 16 = .ok (.aload_n 0, 1) := by decide +kernel
theorem dX4_start_17 : decode cX4_start 17 = .ok (.iconst 0, 1) := by decide +kernel
theorem dX4_start_18 : decode cX4_start 18 = .ok (.putfield 18, 3) := by decide +kernel
theorem dX4_start_21 : decode cX4_start 21 = .ok (.aload_n 0, 1) := by decide +kernel
theorem dX4_start_22 : decode cX4_start 22 = .ok (.iconst 0, 1) := by decide +kernel
theorem dX4_start_23 : decode cX4_start 23 = .ok (.putfield 22, 3) := by decide +kernel
theorem dX4_start_26 : decode cX4_start 26 = .ok (.return_, 1) := by decide +kernel
set_option maxRecDepth 20000 in
theorem ggX4_take_X4_spread : GoodIn wsX4_take wsX4_spread := goodIn_r _ [8, 1, 15, 16, 17, 18] (by decide +kernel) (by decide +kernel)
set_option maxRecDepth 20000 in
theorem gX4_take_X4_spread : GoodIn wsX4_take (wsV RX4 34 RX4 yX4_spread wsX4_spread) := goodIn_app (goodIn_of _ (by decide +kernel)) ggX4_take_X4_spread
set_option maxRecDepth 20000 in
theorem ggX4_take_X4_mix : GoodIn wsX4_take wsX4_mix := goodIn_r _ [12, 13, 14, 1, 15, 16, 17, 18] (by decide +kernel) (by decide +kernel)
set_option maxRecDepth 20000 in
theorem gX4_take_X4_mix : GoodIn wsX4_take (wsV RX4 37 RX4 yX4_mix wsX4_mix) := goodIn_app (goodIn_of _ (by decide +kernel)) ggX4_take_X4_mix
theorem dX4_take_0 : decode cX4_take 0 = .ok (.aload_n 0, 1) := by decide +kernel
theorem dX4_take_1 : decode cX4_take 1 = .ok (.getfield 15, 3) := by decide +kernel
theorem dX4_take_4 : decode cX4_take 4 = .ok (.aload_n 0, 1) := by decide +kernel
theorem dX4_take_5 : decode cX4_take 5 = .ok (.getfield 18, 3) := by decide +kernel
theorem dX4_take_8 : decode cX4_take 8 = .ok (.iconst 2, 1) := by decide +kernel
theorem dX4_take_9 : decode cX4_take 9 = .ok (.ishr, 1) := by decide +kernel
theorem dX4_take_10 : decode cX4_take 10 = .ok (.aload_n 0, 1) := by decide +kernel
theorem dX4_take_11 : decode cX4_take 11 = .ok (.getfield 15, 3) := by decide +kernel
theorem dX4_take_14 : decode cX4_take 14 = .ok (.aload_n 0, 1) := by decide +kernel
theorem dX4_take_15 : decode cX4_take 15 = .ok (.getfield 18, 3) := by decide +kernel
theorem dX4_take_18 : decode cX4_take 18 = .ok (.iconst 2, 1) := by decide +kernel
theorem dX4_take_19 : decode cX4_take 19 = .ok (.ishr, 1) := by decide +kernel
theorem dX4_take_20 : decode cX4_take 20 = .ok (.iaload, 1) := by decide +kernel
theorem dX4_take_21 : decode cX4_take 21 = .ok (.bipush 8, 2) := by decide +kernel
theorem dX4_take_23 : decode cX4_take 23 = .ok (.ishl, 1) := by decide +kernel
theorem dX4_take_24 : decode cX4_take 24 = .ok (.iload_n 1, 1) := by decide +kernel
theorem dX4_take_25 : decode cX4_take 25 = .ok (.ior, 1) := by decide +kernel
theorem dX4_take_26 : decode cX4_take 26 = .ok (.iastore, 1) := by decide +kernel
theorem dX4_take_27 : decode cX4_take 27 = .ok (.aload_n 0, 1) := by decide +kernel
theorem dX4_take_28 : decode cX4_take 28 = .ok (.dup, 1) := by decide +kernel
theorem dX4_take_29 : decode cX4_take 29 = .ok (.getfield 18, 3) := by decide +kernel
theorem dX4_take_32 : decode cX4_take 32 = .ok (.iconst 1, 1) := by decide +kernel
theorem dX4_take_33 : decode cX4_take 33 = .ok (.iadd, 1) := by decide +kernel
theorem dX4_take_34 : decode cX4_take 34 = .ok (.putfield 18, 3) := by decide +kernel
theorem dX4_take_37 : decode cX4_take 37 = .ok (.aload_n 0, 1) := by decide +kernel
theorem dX4_take_38 : decode cX4_take 38 = .ok (.dup, 1) := by decide +kernel
theorem dX4_take_39 : decode cX4_take 39 = .ok (.getfield 22, 3) := by decide +kernel
theorem dX4_take_42 : decode cX4_take 42 = .ok (.iconst 1, 1) := by decide +kernel
theorem dX4_take_43 : decode cX4_take 43 = .ok (.iadd, 1) := by decide +kernel
theorem dX4_take_44 : decode cX4_take 44 = .ok (.putfield 22, 3) := by decide +kernel
theorem dX4_take_47 : decode cX4_take 47 = .ok (.aload_n 0, 1) := by decide +kernel
theorem dX4_take_48 : decode cX4_take 48 = .ok (.getfield 18, 3) := by decide +kernel
theorem dX4_take_51 : decode cX4_take 51 = .ok (.bipush 64, 2) := by decide +kernel
theorem dX4_take_53 : decode cX4_take 53 = .ok (.if_icmp .ne 16, 3) := by decide +kernel
theorem dX4_take_56 : decode cX4_take 56 = .ok (.aload_n 0, 1) := by decide +kernel
theorem dX4_take_57 : decode cX4_take 57 = .ok (.invokevirtual 34, 3) := by decide +kernel
theorem dX4_take_60 : decode cX4_take 60 = .ok (.aload_n 0, 1) := by decide +kernel
theorem dX4_take_61 : decode cX4_take 61 = .ok (.invokevirtual 37, 3) := by decide +kernel
theorem dX4_take_64 : decode cX4_take 64 = .ok (.aload_n 0, 1) := by decide +kernel
theorem dX4_take_65 : decode cX4_take 65 = .ok (.iconst 0, 1) := by decide +kernel
theorem dX4_take_66 : decode cX4_take 66 = .ok (.putfield 18, 3) := by decide +kernel
theorem dX4_take_69 : decode cX4_take 69 = .ok (.return_, 1) := by decide +kernel
set_option maxRecDepth 20000 in
theorem ggX4_takeRow_X4_take : GoodIn wsX4_takeRow wsX4_take := goodIn_r _ [5, 6, 7, 8, 9, 10, 11, 4, 12, 13, 14, 15, 16, 17, 18, 19, 20, 21, 22] (by decide +kernel) (by decide +kernel)
set_option maxRecDepth 20000 in
theorem gX4_takeRow_X4_take : GoodIn wsX4_takeRow (wsV RX4 40 RX4 yX4_take wsX4_take) := goodIn_app (goodIn_of _ (by decide +kernel)) ggX4_takeRow_X4_take
theorem dX4_takeRow_0 : decode cX4_takeRow 0 = .ok (.iconst 0, 1) := by decide +kernel
theorem dX4_takeRow_1 : decode cX4_takeRow 1 = .ok (.istore 4, 2) := by decide +kernel
theorem dX4_takeRow_3 : decode cX4_takeRow 3 = .ok (.iload 4, 2) := by decide +kernel
theorem dX4_takeRow_5 : decode cX4_takeRow 5 = .ok (.iload_n 3, 1) := by decide +kernel
theorem dX4_takeRow_6 : decode cX4_takeRow 6 = .ok (.if_icmp .ge 19, 3) := by decide +kernel
theorem dX4_takeRow_9 : decode cX4_takeRow 9 = .ok (.aload_n 0, 1) := by decide +kernel
theorem dX4_takeRow_10 : decode cX4_takeRow 10 = .ok (.aload_n 1, 1) := by decide +kernel
theorem dX4_takeRow_11 : decode cX4_takeRow 11 = .ok (.iload_n 2, 1) := by decide +kernel
theorem dX4_takeRow_12 : decode cX4_takeRow 12 = .ok (.iload 4, 2) := by decide +kernel
theorem dX4_takeRow_14 : decode cX4_takeRow 14 = .ok (.iadd, 1) := by decide +kernel
theorem dX4_takeRow_15 : decode cX4_takeRow 15 = .ok (.iaload, 1) := by decide +kernel
theorem dX4_takeRow_16 : decode cX4_takeRow 16 = .ok (.invokevirtual 40, 3) := by decide +kernel
theorem dX4_takeRow_19 : decode cX4_takeRow 19 = .ok (.iinc 4 1, 3) := by decide +kernel
theorem dX4_takeRow_22 : decode cX4_takeRow 22 = .ok (.goto (-19), 3) := by decide +kernel
theorem dX4_takeRow_25 : decode cX4_takeRow 25 = .ok (.return_, 1) := by decide +kernel
set_option maxRecDepth 20000 in
theorem ggX4_finish_X4_take : GoodIn wsX4_finish wsX4_take := goodIn_r _ [9, 10, 3, 2, 11, 12, 13, 8, 14, 15, 16, 17, 18, 4, 19, 20, 21, 22, 23] (by decide +kernel) (by decide +kernel)
set_option maxRecDepth 20000 in
theorem gX4_finish_X4_take : GoodIn wsX4_finish (wsV RX4 40 RX4 yX4_take wsX4_take) := goodIn_app (goodIn_of _ (by decide +kernel)) ggX4_finish_X4_take
theorem dX4_finish_0 : decode cX4_finish 0 = .ok (.ldc2_w 44, 3) := by decide +kernel
theorem dX4_finish_3 : decode cX4_finish 3 = .ok (.aload_n 0, 1) := by decide +kernel
theorem dX4_finish_4 : decode cX4_finish 4 = .ok (.getfield 22, 3) := by decide +kernel
theorem dX4_finish_7 : decode cX4_finish 7 = .ok (.i2l, 1) := by decide +kernel
theorem dX4_finish_8 : decode cX4_finish 8 = .ok (.lmul, 1) := by decide +kernel
theorem dX4_finish_9 : decode cX4_finish 9 = .ok (.lstore_n 3, 1) := by decide +kernel
theorem dX4_finish_10 : decode cX4_finish 10 = .ok (.aload_n 0, 1) := by decide +kernel
theorem dX4_finish_11 : decode cX4_finish 11 = .ok (.sipush 128, 3) := by decide +kernel
theorem dX4_finish_14 : decode cX4_finish 14 = .ok (.invokevirtual 40, 3) := by decide +kernel
theorem dX4_finish_17 : decode cX4_finish 17 = .ok (.iconst 0, 1) := by decide +kernel
theorem dX4_finish_18 : decode cX4_finish 18 = .ok (.istore 5, 2) := by decide +kernel
theorem dX4_finish_20 : decode cX4_finish 20 = .ok (.iload 5, 2) := by decide +kernel
theorem dX4_finish_22 : decode cX4_finish 22 = .ok (.bipush 64, 2) := by decide +kernel
theorem dX4_finish_24 : decode cX4_finish 24 = .ok (.if_icmp .ge 23, 3) := by decide +kernel
theorem dX4_finish_27 : decode cX4_finish 27 = .ok (.aload_n 0, 1) := by decide +kernel
theorem dX4_finish_28 : decode cX4_finish 28 = .ok (.getfield 18, 3) := by decide +kernel
theorem dX4_finish_31 : decode cX4_finish 31 = .ok (.bipush 56, 2) := by decide +kernel
theorem dX4_finish_33 : decode cX4_finish 33 = .ok (.if_icmp .eq 14, 3) := by decide +kernel
theorem dX4_finish_36 : decode cX4_finish 36 = .ok (.aload_n 0, 1) := by decide +kernel
theorem dX4_finish_37 : decode cX4_finish 37 = .ok (.iconst 0, 1) := by decide +kernel
theorem dX4_finish_38 : decode cX4_finish 38 = .ok (.invokevirtual 40, 3) := by decide +kernel
theorem dX4_finish_41 : decode cX4_finish 41 = .ok (.iinc 5 1, 3) := by decide +kernel
theorem dX4_finish_44 : decode cX4_finish 44 = .ok (.goto (-24), 3) := by decide +kernel
theorem dX4_finish_47 : decode cX4_finish 47 = .ok (.bipush 56, 2) := by decide +kernel
theorem dX4_finish_49 : decode cX4_finish 49 = .ok (.istore 5, 2) := by decide +kernel
theorem dX4_finish_51 : decode cX4_finish 51 = .ok (.iload 5, 2) := by decide +kernel
theorem dX4_finish_53 : decode cX4_finish 53 = .ok (.ifCond .lt 22, 3) := by decide +kernel
theorem dX4_finish_56 : decode cX4_finish 56 = .ok (.aload_n 0, 1) := by decide +kernel
theorem dX4_finish_57 : decode cX4_finish 57 = .ok (.lload_n 3, 1) := by decide +kernel
theorem dX4_finish_58 : decode cX4_finish 58 = .ok (.iload 5, 2) := by decide +kernel
theorem dX4_finish_60 : decode cX4_finish 60 = .ok (.lushr, 1) := by decide +kernel
theorem dX4_finish_61 : decode cX4_finish 61 = .ok (.l2i, 1) := by decide +kernel
theorem dX4_finish_62 : decode cX4_finish 62 = .ok (.sipush 255, 3) := by decide +kernel
theorem dX4_finish_65 : decode cX4_finish 65 = .ok (.iand, 1) := by decide +kernel
theorem dX4_finish_66 : decode cX4_finish 66 = .ok (.invokevirtual 40, 3) := by decide +kernel
theorem dX4_finish_69 : decode cX4_finish 69 = .ok (.iinc 5 (-8), 3) := by decide +kernel
theorem dX4_finish_72 : decode cX4_finish 72 = .ok (.goto (-21), 3) := by decide +kernel
theorem dX4_finish_75 : decode cX4_finish 75 = .ok (.iconst 0, 1) := by decide +kernel
theorem dX4_finish_76 : decode cX4_finish 76 = .ok (.istore 5, 2) := by decide +kernel
theorem dX4_finish_78 : decode cX4_finish 78 = .ok (.iload 5, 2) := by decide +kernel
theorem dX4_finish_80 : decode cX4_finish 80 = .ok (.bipush 32, 2) := by decide +kernel
theorem dX4_finish_82 : decode cX4_finish 82 = .ok (.if_icmp .ge 39, 3) := by decide +kernel
theorem dX4_finish_85 : decode cX4_finish 85 = .ok (.aload_n 1, 1) := by decide +kernel
theorem dX4_finish_86 : decode cX4_finish 86 = .ok (.iload_n 2, 1) := by decide +kernel
theorem dX4_finish_87 : decode cX4_finish 87 = .ok (.iload 5, 2) := by decide +kernel
theorem dX4_finish_89 : decode cX4_finish 89 = .ok (.iadd, 1) := by decide +kernel
theorem dX4_finish_90 : decode cX4_finish 90 = .ok (.aload_n 0, 1) := by decide +kernel
theorem dX4_finish_91 : decode cX4_finish 91 = .ok (.getfield 9, 3) := by decide +kernel
theorem dX4_finish_94 : decode cX4_finish 94 = .ok (.iload 5, 2) := by decide +kernel
theorem dX4_finish_96 : decode cX4_finish 96 = .ok (.iconst 2, 1) := by decide +kernel
theorem dX4_finish_97 : decode cX4_finish 97 = .ok (.ishr, 1) := by decide +kernel
theorem dX4_finish_98 : decode cX4_finish 98 = .ok (.iaload, 1) := by decide +kernel
theorem dX4_finish_99 : decode cX4_finish 99 = .ok (.bipush 24, 2) := by decide +kernel
theorem dX4_finish_101 : decode cX4_finish 101 = .ok (.bipush 8, 2) := by decide +kernel
theorem dX4_finish_103 : decode cX4_finish 103 = .ok (.iload 5, 2) := by decide +kernel
theorem dX4_finish_105 : decode cX4_finish 105 = .ok (.iconst 3, 1) := by decide +kernel
theorem dX4_finish_106 : decode cX4_finish 106 = .ok (.iand, 1) := by decide +kernel
theorem dX4_finish_107 : decode cX4_finish 107 = .ok (.imul, 1) := by decide +kernel
theorem dX4_finish_108 : decode cX4_finish 108 = .ok (.isub, 1) := by decide +kernel
theorem dX4_finish_109 : decode cX4_finish 109 = .ok (.iushr, 1) := by decide +kernel
theorem dX4_finish_110 : decode cX4_finish 110 = .ok (.sipush 255, 3) := by decide +kernel
theorem dX4_finish_113 : decode cX4_finish 113 = .ok (.iand, 1) := by decide +kernel
theorem dX4_finish_114 : decode cX4_finish 114 = .ok (.iastore, 1) := by decide +kernel
theorem dX4_finish_115 : decode cX4_finish 115 = .ok (.iinc 5 1, 3) := by decide +kernel
theorem dX4_finish_118 : decode cX4_finish 118 = .ok (.goto (-40), 3) := by decide +kernel
theorem dX4_finish_121 : decode cX4_finish 121 = .ok (.return_, 1) := by decide +kernel
theorem dX4_spread_0 : decode cX4_spread 0 = .ok (.bipush 16, 2) := by decide +kernel
theorem dX4_spread_2 : decode cX4_spread 2 = .ok (.istore_n 1, 1) := by decide +kernel
theorem dX4_spread_3 : decode cX4_spread 3 = .ok (.iload_n 1, 1) := by decide +kernel
theorem dX4_spread_4 : decode cX4_spread 4 = .ok (.bipush 64, 2) := by decide +kernel
theorem dX4_spread_6 : decode cX4_spread 6 = .ok (.if_icmp .ge 110, 3) := by decide +kernel
theorem dX4_spread_9 : decode cX4_spread 9 = .ok (.aload_n 0, 1) := by decide +kernel
theorem dX4_spread_10 : decode cX4_spread 10 = .ok (.getfield 15, 3) := by decide +kernel
theorem dX4_spread_13 : decode cX4_spread 13 = .ok (.iload_n 1, 1) := by decide +kernel
theorem dX4_spread_14 : decode cX4_spread 14 = .ok (.bipush 15, 2) := by decide +kernel
theorem dX4_spread_16 : decode cX4_spread 16 = .ok (.isub, 1) := by decide +kernel
theorem dX4_spread_17 : decode cX4_spread 17 = .ok (.iaload, 1) := by decide +kernel
theorem dX4_spread_18 : decode cX4_spread 18 = .ok (.istore_n 2, 1) := by decide +kernel
theorem dX4_spread_19 : decode cX4_spread 19 = .ok (.aload_n 0, 1) := by decide +kernel
theorem dX4_spread_20 : decode cX4_spread 20 = .ok (.getfield 15, 3) := by decide +kernel
theorem dX4_spread_23 : decode cX4_spread 23 = .ok (.iload_n 1, 1) := by decide +kernel
theorem dX4_spread_24 : decode cX4_spread 24 = .ok (.iconst 2, 1) := by decide +kernel
theorem dX4_spread_25 : decode cX4_spread 25 = .ok (.isub, 1) := by decide +kernel
theorem dX4_spread_26 : decode cX4_spread 26 = .ok (.iaload, 1) := by decide +kernel
theorem dX4_spread_27 : decode cX4_spread 27 = .ok (.istore_n 3, 1) := by decide +kernel
theorem dX4_spread_28 : decode cX4_spread 28 = .ok (.iload_n 2, 1) := by decide +kernel
theorem dX4_spread_29 : decode cX4_spread 29 = .ok (.bipush 7, 2) := by decide +kernel
theorem dX4_spread_31 : decode cX4_spread 31 = .ok (.iushr, 1) := by decide +kernel
theorem dX4_spread_32 : decode cX4_spread 32 = .ok (.iload_n 2, 1) := by decide +kernel
theorem dX4_spread_33 : decode cX4_spread 33 = .ok (.bipush 25, 2) := by decide +kernel
theorem dX4_spread_35 : decode cX4_spread 35 = .ok (.ishl, 1) := by decide +kernel
theorem dX4_spread_36 : decode cX4_spread 36 = .ok (.ior, 1) := by decide +kernel
theorem dX4_spread_37 : decode cX4_spread 37 = .ok (.iload_n 2, 1) := by decide +kernel
theorem dX4_spread_38 : decode cX4_spread 38 = .ok (.bipush 18, 2) := by decide +kernel
theorem dX4_spread_40 : decode cX4_spread 40 = .ok (.iushr, 1) := by decide +kernel
theorem dX4_spread_41 : decode cX4_spread 41 = .ok (.iload_n 2, 1) := by decide +kernel
theorem dX4_spread_42 : decode cX4_spread 42 = .ok (.bipush 14, 2) := by decide +kernel
theorem dX4_spread_44 : decode cX4_spread 44 = .ok (.ishl, 1) := by decide +kernel
theorem dX4_spread_45 : decode cX4_spread 45 = .ok (.ior, 1) := by decide +kernel
theorem dX4_spread_46 : decode cX4_spread 46 = .ok (.ixor, 1) := by decide +kernel
theorem dX4_spread_47 : decode cX4_spread 47 = .ok (.iload_n 2, 1) := by decide +kernel
theorem dX4_spread_48 : decode cX4_spread 48 = .ok (.iconst 3, 1) := by decide +kernel
theorem dX4_spread_49 : decode cX4_spread 49 = .ok (.iushr, 1) := by decide +kernel
theorem dX4_spread_50 : decode cX4_spread 50 = .ok (.ixor, 1) := by decide +kernel
theorem dX4_spread_51 : decode cX4_spread 51 = .ok (.istore 4, 2) := by decide +kernel
theorem dX4_spread_53 : decode cX4_spread 53 = .ok (.iload_n 3, 1) := by decide +kernel
theorem dX4_spread_54 : decode cX4_spread 54 = .ok (.bipush 17, 2) := by decide +kernel
theorem dX4_spread_56 : decode cX4_spread 56 = .ok (.iushr, 1) := by decide +kernel
theorem dX4_spread_57 : decode cX4_spread 57 = .ok (.iload_n 3, 1) := by decide +kernel
theorem dX4_spread_58 : decode cX4_spread 58 = .ok (.bipush 15, 2) := by decide +kernel
theorem dX4_spread_60 : decode cX4_spread 60 = .ok (.ishl, 1) := by decide +kernel
theorem dX4_spread_61 : decode cX4_spread 61 = .ok (.ior, 1) := by decide +kernel
theorem dX4_spread_62 : decode cX4_spread 62 = .ok (.iload_n 3, 1) := by decide +kernel
theorem dX4_spread_63 : decode cX4_spread 63 = .ok (.bipush 19, 2) := by decide +kernel
theorem dX4_spread_65 : decode cX4_spread 65 = .ok (.iushr, 1) := by decide +kernel
theorem dX4_spread_66 : decode cX4_spread 66 = .ok (.iload_n 3, 1) := by decide +kernel
theorem dX4_spread_67 : decode cX4_spread 67 = .ok (.bipush 13, 2) := by decide +kernel
theorem dX4_spread_69 : decode cX4_spread 69 = .ok (.ishl, 1) := by decide +kernel
theorem dX4_spread_70 : decode cX4_spread 70 = .ok (.ior, 1) := by decide +kernel
theorem dX4_spread_71 : decode cX4_spread 71 = .ok (.ixor, 1) := by decide +kernel
theorem dX4_spread_72 : decode cX4_spread 72 = .ok (.iload_n 3, 1) := by decide +kernel
theorem dX4_spread_73 : decode cX4_spread 73 = .ok (.bipush 10, 2) := by decide +kernel
theorem dX4_spread_75 : decode cX4_spread 75 = .ok (.iushr, 1) := by decide +kernel
theorem dX4_spread_76 : decode cX4_spread 76 = .ok (.ixor, 1) := by decide +kernel
theorem dX4_spread_77 : decode cX4_spread 77 = .ok (.istore 5, 2) := by decide +kernel
theorem dX4_spread_79 : decode cX4_spread 79 = .ok (.aload_n 0, 1) := by decide +kernel
theorem dX4_spread_80 : decode cX4_spread 80 = .ok (.getfield 15, 3) := by decide +kernel
theorem dX4_spread_83 : decode cX4_spread 83 = .ok (.iload_n 1, 1) := by decide +kernel
theorem dX4_spread_84 : decode cX4_spread 84 = .ok (.aload_n 0, 1) := by decide +kernel
theorem dX4_spread_85 : decode cX4_spread 85 = .ok (.getfield 15, 3) := by decide +kernel
theorem dX4_spread_88 : decode cX4_spread 88 = .ok (.iload_n 1, 1) := by decide +kernel
theorem dX4_spread_89 : decode cX4_spread 89 = .ok (.bipush 16, 2) := by decide +kernel
theorem dX4_spread_91 : decode cX4_spread 91 = .ok (.isub, 1) := by decide +kernel
theorem dX4_spread_92 : decode cX4_spread 92 = .ok (.iaload, 1) := by decide +kernel
theorem dX4_spread_93 : decode cX4_spread 93 = .ok (.iload 4, 2) := by decide +kernel
theorem dX4_spread_95 : decode cX4_spread 95 = .ok (.iadd, 1) := by decide +kernel
theorem dX4_spread_96 : decode cX4_spread 96 = .ok (.aload_n 0, 1) := by decide +kernel
theorem dX4_spread_97 : decode cX4_spread 97 = .ok (.getfield 15, 3) := by decide +kernel
theorem dX4_spread_100 : decode cX4_spread 100 = .ok (.iload_n 1, 1) := by decide +kernel
theorem dX4_spread_101 : decode cX4_spread 101 = .ok (.bipush 7, 2) := by decide +kernel
theorem dX4_spread_103 : decode cX4_spread 103 = .ok (.isub, 1) := by decide +kernel
theorem dX4_spread_104 : decode cX4_spread 104 = .ok (.iaload, 1) := by decide +kernel
theorem dX4_spread_105 : decode cX4_spread 105 = .ok (.iadd, 1) := by decide +kernel
theorem dX4_spread_106 : decode cX4_spread 106 = .ok (.iload 5, 2) := by decide +kernel
theorem dX4_spread_108 : decode cX4_spread 108 = .ok (.iadd, 1) := by decide +kernel
theorem dX4_spread_109 : decode cX4_spread 109 = .ok (.iastore, 1) := by decide +kernel
theorem dX4_spread_110 : decode cX4_spread 110 = .ok (.iinc 1 1, 3) := by decide +kernel
theorem dX4_spread_113 : decode cX4_spread 113 = .ok (.goto (-110), 3) := by decide +kernel
theorem dX4_spread_116 : decode cX4_spread 116 = .ok (.return_, 1) := by decide +kernel
theorem dX4_mix_0 : decode cX4_mix 0 = .ok (.aload_n 0, 1) := by decide +kernel
theorem dX4_mix_1 : decode cX4_mix 1 = .ok (.getfield 9, 3) := by decide +kernel
theorem dX4_mix_4 : decode cX4_mix 4 = .ok (.iconst 0, 1) := by decide +kernel
theorem dX4_mix_5 : decode cX4_mix 5 = .ok (.iaload, 1) := by decide +kernel
theorem dX4_mix_6 : decode cX4_mix 6 = .ok (.istore_n 1, 1) := by decide +kernel
theorem dX4_mix_7 : decode cX4_mix 7 = .ok (.aload_n 0, 1) := by decide +kernel
theorem dX4_mix_8 : decode cX4_mix 8 = .ok (.getfield 9, 3) := by decide +kernel
theorem dX4_mix_11 : decode cX4_mix 11 = .ok (.iconst 1, 1) := by decide +kernel
theorem dX4_mix_12 : decode cX4_mix 12 = .ok (.iaload, 1) := by decide +kernel
theorem dX4_mix_13 : decode cX4_mix 13 = .ok (.istore_n 2, 1) := by decide +kernel
theorem dX4_mix_14 : decode cX4_mix 14 = .ok (.aload_n 0, 1) := by decide +kernel
theorem dX4_mix_15 : decode cX4_mix 15 = .ok (.getfield 9, 3) := by decide +kernel
theorem dX4_mix_18 : decode cX4_mix 18 = .ok (.iconst 2, 1) := by decide +kernel
theorem dX4_mix_19 : decode cX4_mix 19 = .ok (.iaload, 1) := by decide +kernel
theorem dX4_mix_20 : decode cX4_mix 20 = .ok (.istore_n 3, 1) := by decide +kernel
theorem dX4_mix_21 : decode cX4_mix 21 = .ok (.aload_n 0, 1) := by decide +kernel
theorem dX4_mix_22 : decode cX4_mix 22 = .ok (.getfield 9, 3) := by decide +kernel
theorem dX4_mix_25 : decode cX4_mix 25 = .ok (.iconst 3, 1) := by decide +kernel
theorem dX4_mix_26 : decode cX4_mix 26 = .ok (.iaload, 1) := by decide +kernel
theorem dX4_mix_27 : decode cX4_mix 27 = .ok (.istore 4, 2) := by decide +kernel
theorem dX4_mix_29 : decode cX4_mix 29 = .ok (.aload_n 0, 1) := by decide +kernel
theorem dX4_mix_30 : decode cX4_mix 30 = .ok (.getfield 9, 3) := by decide +kernel
theorem dX4_mix_33 : decode cX4_mix 33 = .ok (.iconst 4, 1) := by decide +kernel
theorem dX4_mix_34 : decode cX4_mix 34 = .ok (.iaload, 1) := by decide +kernel
theorem dX4_mix_35 : decode cX4_mix 35 = .ok (.istore 5, 2) := by decide +kernel
theorem dX4_mix_37 : decode cX4_mix 37 = .ok (.aload_n 0, 1) := by decide +kernel
theorem dX4_mix_38 : decode cX4_mix 38 = .ok (.getfield 9, 3) := by decide +kernel
theorem dX4_mix_41 : decode cX4_mix 41 = .ok (.iconst 5, 1) := by decide +kernel
theorem dX4_mix_42 : decode cX4_mix 42 = .ok (.iaload, 1) := by decide +kernel
theorem dX4_mix_43 : decode cX4_mix 43 = .ok (.istore 6, 2) := by decide +kernel
theorem dX4_mix_45 : decode cX4_mix 45 = .ok (.aload_n 0, 1) := by decide +kernel
theorem dX4_mix_46 : decode cX4_mix 46 = .ok (.getfield 9, 3) := by decide +kernel
theorem dX4_mix_49 : decode cX4_mix 49 = .ok (.bipush 6, 2) := by decide +kernel
theorem dX4_mix_51 : decode cX4_mix 51 = .ok (.iaload, 1) := by decide +kernel
theorem dX4_mix_52 : decode cX4_mix 52 = .ok (.istore 7, 2) := by decide +kernel
theorem dX4_mix_54 : decode cX4_mix 54 = .ok (.aload_n 0, 1) := by decide +kernel
theorem dX4_mix_55 : decode cX4_mix 55 = .ok (.getfield 9, 3) := by decide +kernel
theorem dX4_mix_58 : decode cX4_mix 58 = .ok (.bipush 7, 2) := by decide +kernel
theorem dX4_mix_60 : decode cX4_mix 60 = .ok (.iaload, 1) := by decide +kernel
theorem dX4_mix_61 : decode cX4_mix 61 = .ok (.istore 8, 2) := by decide +kernel
theorem dX4_mix_63 : decode cX4_mix 63 = .ok (.iconst 0, 1) := by decide +kernel
theorem dX4_mix_64 : decode cX4_mix 64 = .ok (.istore 9, 2) := by decide +kernel
theorem dX4_mix_66 : decode cX4_mix 66 = .ok (.iload 9, 2) := by decide +kernel
theorem dX4_mix_68 : decode cX4_mix 68 = .ok (.bipush 64, 2) := by decide +kernel
theorem dX4_mix_70 : decode cX4_mix 70 = .ok (.if_icmp .ge 164, 3) := by decide +kernel
theorem dX4_mix_73 : decode cX4_mix 73 = .ok (.iload 5, 2) := by decide +kernel
theorem dX4_mix_75 : decode cX4_mix 75 = .ok (.bipush 6, 2) := by decide +kernel
theorem dX4_mix_77 : decode cX4_mix 77 = .ok (.iushr, 1) := by decide +kernel
theorem dX4_mix_78 : decode cX4_mix 78 = .ok (.iload 5, 2) := by decide +kernel
theorem dX4_mix_80 : decode cX4_mix 80 = .ok (.bipush 26, 2) := by decide +kernel
theorem dX4_mix_82 : decode cX4_mix 82 = .ok (.ishl, 1) := by decide +kernel
theorem dX4_mix_83 : decode cX4_mix 83 = .ok (.ior, 1) := by decide +kernel
theorem dX4_mix_84 : decode cX4_mix 84 = .ok (.iload 5, 2) := by decide +kernel
theorem dX4_mix_86 : decode cX4_mix 86 = .ok (.bipush 11, 2) := by decide +kernel
theorem dX4_mix_88 : decode cX4_mix 88 = .ok (.iushr, 1) := by decide +kernel
theorem dX4_mix_89 : decode cX4_mix 89 = .ok (.iload 5, 2) := by decide +kernel
theorem dX4_mix_91 : decode cX4_mix 91 = .ok (.bipush 21, 2) := by decide +kernel
theorem dX4_mix_93 : decode cX4_mix 93 = .ok (.ishl, 1) := by decide +kernel
theorem dX4_mix_94 : decode cX4_mix 94 = .ok (.ior, 1) := by decide +kernel
theorem dX4_mix_95 : decode cX4_mix 95 = .ok (.ixor, 1) := by decide +kernel
theorem dX4_mix_96 : decode cX4_mix 96 = .ok (.iload 5, 2) := by decide +kernel
theorem dX4_mix_98 : decode cX4_mix 98 = .ok (.bipush 25, 2) := by decide +kernel
theorem dX4_mix_100 : decode cX4_mix 100 = .ok (.iushr, 1) := by decide +kernel
theorem dX4_mix_101 : decode cX4_mix 101 = .ok (.iload 5, 2) := by decide +kernel
theorem dX4_mix_103 : decode cX4_mix 103 = .ok (.bipush 7, 2) := by decide +kernel
theorem dX4_mix_105 : decode cX4_mix 105 = .ok (.ishl, 1) := by decide +kernel
theorem dX4_mix_106 : decode cX4_mix 106 = .ok (.ior, 1) := by decide +kernel
theorem dX4_mix_107 : decode cX4_mix 107 = .ok (.ixor, 1) := by decide +kernel
theorem dX4_mix_108 : decode cX4_mix 108 = .ok (.istore 10, 2) := by decide +kernel
theorem dX4_mix_110 : decode cX4_mix 110 = .ok (.iload_n 1, 1) := by decide +kernel
theorem dX4_mix_111 : decode cX4_mix 111 = .ok (.iconst 2, 1) := by decide +kernel
theorem dX4_mix_112 : decode cX4_mix 112 = .ok (.iushr, 1) := by decide +kernel
theorem dX4_mix_113 : decode cX4_mix 113 = .ok (.iload_n 1, 1) := by decide +kernel
theorem dX4_mix_114 : decode cX4_mix 114 = .ok (.bipush 30, 2) := by decide +kernel
theorem dX4_mix_116 : decode cX4_mix 116 = .ok (.ishl, 1) := by decide +kernel
theorem dX4_mix_117 : decode cX4_mix 117 = .ok (.ior, 1) := by decide +kernel
theorem dX4_mix_118 : decode cX4_mix 118 = .ok (.iload_n 1, 1) := by decide +kernel
theorem dX4_mix_119 : decode cX4_mix 119 = .ok (.bipush 13, 2) := by decide +kernel
theorem dX4_mix_121 : decode cX4_mix 121 = .ok (.iushr, 1) := by decide +kernel
theorem dX4_mix_122 : decode cX4_mix 122 = .ok (.iload_n 1, 1) := by decide +kernel
theorem dX4_mix_123 : decode cX4_mix 123 = .ok (.bipush 19, 2) := by decide +kernel
theorem dX4_mix_125 : decode cX4_mix 125 = .ok (.ishl, 1) := by decide +kernel
theorem dX4_mix_126 : decode cX4_mix 126 = .ok (.ior, 1) := by decide +kernel
theorem dX4_mix_127 : decode cX4_mix 127 = .ok (.ixor, 1) := by decide +kernel
theorem dX4_mix_128 : decode cX4_mix 128 = .ok (.iload_n 1, 1) := by decide +kernel
theorem dX4_mix_129 : decode cX4_mix 129 = .ok (.bipush 22, 2) := by decide +kernel
theorem dX4_mix_131 : decode cX4_mix 131 = .ok (.iushr, 1) := by decide +kernel
theorem dX4_mix_132 : decode cX4_mix 132 = .ok (.iload_n 1, 1) := by decide +kernel
theorem dX4_mix_133 : decode cX4_mix 133 = .ok (.bipush 10, 2) := by decide +kernel
theorem dX4_mix_135 : decode cX4_mix 135 = .ok (.ishl, 1) := by decide +kernel
theorem dX4_mix_136 : decode cX4_mix 136 = .ok (.ior, 1) := by decide +kernel
theorem dX4_mix_137 : decode cX4_mix 137 = .ok (.ixor, 1) := by decide +kernel
theorem dX4_mix_138 : decode cX4_mix 138 = .ok (.istore 11, 2) := by decide +kernel
theorem dX4_mix_140 : decode cX4_mix 140 = .ok (.iload 5, 2) := by decide +kernel
theorem dX4_mix_142 : decode cX4_mix 142 = .ok (.iload 6, 2) := by decide +kernel
theorem dX4_mix_144 : decode cX4_mix 144 = .ok (.iand, 1) := by decide +kernel
theorem dX4_mix_145 : decode cX4_mix 145 = .ok (.iload 5, 2) := by decide +kernel
theorem dX4_mix_147 : decode cX4_mix 147 = .ok (.iconst (-1), 1) := by decide +kernel
theorem dX4_mix_148 : decode cX4_mix 148 = .ok (.ixor, 1) := by decide +kernel
theorem dX4_mix_149 : decode cX4_mix 149 = .ok (.iload 7, 2) := by decide +kernel
theorem dX4_mix_151 : decode cX4_mix 151 = .ok (.iand, 1) := by decide +kernel
theorem dX4_mix_152 : decode cX4_mix 152 = .ok (.ixor, 1) := by decide +kernel
theorem dX4_mix_153 : decode cX4_mix 153 = .ok (.istore 12, 2) := by decide +kernel
theorem dX4_mix_155 : decode cX4_mix 155 = .ok (.iload_n 1, 1) := by decide +kernel
theorem dX4_mix_156 : decode cX4_mix 156 = .ok (.iload_n 2, 1) := by decide +kernel
theorem dX4_mix_157 : decode cX4_mix 157 = .ok (.iand, 1) := by decide +kernel
theorem dX4_mix_158 : decode cX4_mix 158 = .ok (.iload_n 1, 1) := by decide +kernel
theorem dX4_mix_159 : decode cX4_mix 159 = .ok (.iload_n 3, 1) := by decide +kernel
theorem dX4_mix_160 : decode cX4_mix 160 = .ok (.iand, 1) := by decide +kernel
theorem dX4_mix_161 : decode cX4_mix 161 = .ok (.ixor, 1) := by decide +kernel
theorem dX4_mix_162 : decode cX4_mix 162 = .ok (.iload_n 2, 1) := by decide +kernel
theorem dX4_mix_163 : decode cX4_mix 163 = .ok (.iload_n 3, 1) := by decide +kernel
theorem dX4_mix_164 : decode cX4_mix 164 = .ok (.iand, 1) := by decide +kernel
theorem dX4_mix_165 : decode cX4_mix 165 = .ok (.ixor, 1) := by decide +kernel
theorem dX4_mix_166 : decode cX4_mix 166 = .ok (.istore 13, 2) := by decide +kernel
theorem dX4_mix_168 : decode cX4_mix 168 = .ok (.iload 8, 2) := by decide +kernel
theorem dX4_mix_170 : decode cX4_mix 170 = .ok (.iload 10, 2) := by decide +kernel
theorem dX4_mix_172 : decode cX4_mix 172 = .ok (.iadd, 1) := by decide +kernel
theorem dX4_mix_173 : decode cX4_mix 173 = .ok (.iload 12, 2) := by decide +kernel
theorem dX4_mix_175 : decode cX4_mix 175 = .ok (.iadd, 1) := by decide +kernel
theorem dX4_mix_176 : decode cX4_mix 176 = .ok (.getstatic 46, 3) := by decide +kernel
theorem dX4_mix_179 : decode cX4_mix 179 = .ok (.iload 9, 2) := by decide +kernel
theorem dX4_mix_181 : decode cX4_mix 181 = .ok (.iaload, 1) := by decide +kernel
theorem dX4_mix_182 : decode cX4_mix 182 = .ok (.iadd, 1) := by decide +kernel
theorem dX4_mix_183 : decode cX4_mix 183 = .ok (.aload_n 0, 1) := by decide +kernel
theorem dX4_mix_184 : decode cX4_mix 184 = .ok (.getfield 15, 3) := by decide +kernel
theorem dX4_mix_187 : decode cX4_mix 187 = .ok (.iload 9, 2) := by decide +kernel
theorem dX4_mix_189 : decode cX4_mix 189 = .ok (.iaload, 1) := by decide +kernel
theorem dX4_mix_190 : decode cX4_mix 190 = .ok (.iadd, 1) := by decide +kernel
theorem dX4_mix_191 : decode cX4_mix 191 = .ok (.istore 14, 2) := by decide +kernel
theorem dX4_mix_193 : decode cX4_mix 193 = .ok (.iload 7, 2) := by decide +kernel
theorem dX4_mix_195 : decode cX4_mix 195 = .ok (.istore 8, 2) := by decide +kernel
theorem dX4_mix_197 : decode cX4_mix 197 = .ok (.iload 6, 2) := by decide +kernel
theorem dX4_mix_199 : decode cX4_mix 199 = .ok (.istore 7, 2) := by decide +kernel
theorem dX4_mix_201 : decode cX4_mix 201 = .ok (.iload 5, 2) := by decide +kernel
theorem dX4_mix_203 : decode cX4_mix 203 = .ok (.istore 6, 2) := by decide +kernel
theorem dX4_mix_205 : decode cX4_mix 205 = .ok (.iload 4, 2) := by decide +kernel
theorem dX4_mix_207 : decode cX4_mix 207 = .ok (.iload 14, 2) := by decide +kernel
theorem dX4_mix_209 : decode cX4_mix 209 = .ok (.iadd, 1) := by decide +kernel
theorem dX4_mix_210 : decode cX4_mix 210 = .ok (.istore 5, 2) := by decide +kernel
theorem dX4_mix_212 : decode cX4_mix 212 = .ok (.iload_n 3, 1) := by decide +kernel
theorem dX4_mix_213 : decode cX4_mix 213 = .ok (.istore 4, 2) := by decide +kernel
theorem dX4_mix_215 : decode cX4_mix 215 = .ok (.iload_n 2, 1) := by decide +kernel
theorem dX4_mix_216 : decode cX4_mix 216 = .ok (.istore_n 3, 1) := by decide +kernel
theorem dX4_mix_217 : decode cX4_mix 217 = .ok (.iload_n 1, 1) := by decide +kernel
theorem dX4_mix_218 : decode cX4_mix 218 = .ok (.istore_n 2, 1) := by decide +kernel
theorem dX4_mix_219 : decode cX4_mix 219 = .ok (.iload 14, 2) := by decide +kernel
theorem dX4_mix_221 : decode cX4_mix 221 = .ok (.iload 11, 2) := by decide +kernel
theorem dX4_mix_223 : decode cX4_mix 223 = .ok (.iadd, 1) := by decide +kernel
theorem dX4_mix_224 : decode cX4_mix 224 = .ok (.iload 13, 2) := by decide +kernel
theorem dX4_mix_226 : decode cX4_mix 226 = .ok (.iadd, 1) := by decide +kernel
theorem dX4_mix_227 : decode cX4_mix 227 = .ok (.istore_n 1, 1) := by decide +kernel
theorem dX4_mix_228 : decode cX4_mix 228 = .ok (.iinc 9 1, 3) := by decide +kernel
theorem dX4_mix_231 : decode cX4_mix 231 = .ok (.goto (-165), 3) := by decide +kernel
theorem dX4_mix_234 : decode cX4_mix 234 = .ok (.aload_n 0, 1) := by decide +kernel
theorem dX4_mix_235 : decode cX4_mix 235 = .ok (.getfield 9, 3) := by decide +kernel
theorem dX4_mix_238 : decode cX4_mix 238 = .ok (.iconst 0, 1) := by decide +kernel
theorem dX4_mix_239 : decode cX4_mix 239 = .ok (.dup2, 1) := by decide +kernel
theorem dX4_mix_240 : decode cX4_mix 240 = .ok (.iaload, 1) := by decide +kernel
theorem dX4_mix_241 : decode cX4_mix 241 = .ok (.iload_n 1, 1) := by decide +kernel
theorem dX4_mix_242 : decode cX4_mix 242 = .ok (.iadd, 1) := by decide +kernel
theorem dX4_mix_243 : decode cX4_mix 243 = .ok (.iastore, 1) := by decide +kernel
theorem dX4_mix_244 : decode cX4_mix 244 = .ok (.aload_n 0, 1) := by decide +kernel
theorem dX4_mix_245 : decode cX4_mix 245 = .ok (.getfield 9, 3) := by decide +kernel
theorem dX4_mix_248 : decode cX4_mix 248 = .ok (.iconst 1, 1) := by decide +kernel
theorem dX4_mix_249 : decode cX4_mix 249 = .ok (.dup2, 1) := by decide +kernel
theorem dX4_mix_250 : decode cX4_mix 250 = .ok (.iaload, 1) := by decide +kernel
theorem dX4_mix_251 : decode cX4_mix 251 = .ok (.iload_n 2, 1) := by decide +kernel
theorem dX4_mix_252 : decode cX4_mix 252 = .ok (.iadd, 1) := by decide +kernel
theorem dX4_mix_253 : decode cX4_mix 253 = .ok (.iastore, 1) := by decide +kernel
theorem dX4_mix_254 : decode cX4_mix 254 = .ok (.aload_n 0, 1) := by decide +kernel
theorem dX4_mix_255 : decode cX4_mix 255 = .ok (.getfield 9, 3) := by decide +kernel
theorem dX4_mix_258 : decode cX4_mix 258 = .ok (.iconst 2, 1) := by decide +kernel
theorem dX4_mix_259 : decode cX4_mix 259 = .ok (.dup2, 1) := by decide +kernel
theorem dX4_mix_260 : decode cX4_mix 260 = .ok (.iaload, 1) := by decide +kernel
theorem dX4_mix_261 : decode cX4_mix 261 = .ok (.iload_n 3, 1) := by decide +kernel
theorem dX4_mix_262 : decode cX4_mix 262 = .ok (.iadd, 1) := by decide +kernel
theorem dX4_mix_263 : decode cX4_mix 263 = .ok (.iastore, 1) := by decide +kernel
theorem dX4_mix_264 : decode cX4_mix 264 = .ok (.aload_n 0, 1) := by decide +kernel
theorem dX4_mix_265 : decode cX4_mix 265 = .ok (.getfield 9, 3) := by decide +kernel
theorem dX4_mix_268 : decode cX4_mix 268 = .ok (.iconst 3, 1) := by decide +kernel
theorem dX4_mix_269 : decode cX4_mix 269 = .ok (.dup2, 1) := by decide +kernel
theorem dX4_mix_270 : decode cX4_mix 270 = .ok (.iaload, 1) := by decide +kernel
theorem dX4_mix_271 : decode cX4_mix 271 = .ok (.iload 4, 2) := by decide +kernel
theorem dX4_mix_273 : decode cX4_mix 273 = .ok (.iadd, 1) := by decide +kernel
theorem dX4_mix_274 : decode cX4_mix 274 = .ok (.iastore, 1) := by decide +kernel
theorem dX4_mix_275 : decode cX4_mix 275 = .ok (.aload_n 0, 1) := by decide +kernel
theorem dX4_mix_276 : decode cX4_mix 276 = .ok (.getfield 9, 3) := by decide +kernel
theorem dX4_mix_279 : decode cX4_mix 279 = .ok (.iconst 4, 1) := by decide +kernel
theorem dX4_mix_280 : decode cX4_mix 280 = .ok (.dup2, 1) := by decide +kernel
theorem dX4_mix_281 : decode cX4_mix 281 = .ok (.iaload, 1) := by decide +kernel
theorem dX4_mix_282 : decode cX4_mix 282 = .ok (.iload 5, 2) := by decide +kernel
theorem dX4_mix_284 : decode cX4_mix 284 = .ok (.iadd, 1) := by decide +kernel
theorem dX4_mix_285 : decode cX4_mix 285 = .ok (.iastore, 1) := by decide +kernel
theorem dX4_mix_286 : decode cX4_mix 286 = .ok (.aload_n 0, 1) := by decide +kernel
theorem dX4_mix_287 : decode cX4_mix 287 = .ok (.getfield 9, 3) := by decide +kernel
theorem dX4_mix_290 : decode cX4_mix 290 = .ok (.iconst 5, 1) := by decide +kernel
theorem dX4_mix_291 : decode cX4_mix 291 = .ok (.dup2, 1) := by decide +kernel
theorem dX4_mix_292 : decode cX4_mix 292 = .ok (.iaload, 1) := by decide +kernel
theorem dX4_mix_293 : decode cX4_mix 293 = .ok (.iload 6, 2) := by decide +kernel
theorem dX4_mix_295 : decode cX4_mix 295 = .ok (.iadd, 1) := by decide +kernel
theorem dX4_mix_296 : decode cX4_mix 296 = .ok (.iastore, 1) := by decide +kernel
theorem dX4_mix_297 : decode cX4_mix 297 = .ok (.aload_n 0, 1) := by decide +kernel
theorem dX4_mix_298 : decode cX4_mix 298 = .ok (.getfield 9, 3) := by decide +kernel
theorem dX4_mix_301 : decode cX4_mix 301 = .ok (.bipush 6, 2) := by decide +kernel
theorem dX4_mix_303 : decode cX4_mix 303 = .ok (.dup2, 1) := by decide +kernel
theorem dX4_mix_304 : decode cX4_mix 304 = .ok (.iaload, 1) := by decide +kernel
theorem dX4_mix_305 : decode cX4_mix 305 = .ok (.iload 7, 2) := by decide +kernel
theorem dX4_mix_307 : decode cX4_mix 307 = .ok (.iadd, 1) := by decide +kernel
theorem dX4_mix_308 : decode cX4_mix 308 = .ok (.iastore, 1) := by decide +kernel
theorem dX4_mix_309 : decode cX4_mix 309 = .ok (.aload_n 0, 1) := by decide +kernel
theorem dX4_mix_310 : decode cX4_mix 310 = .ok (.getfield 9, 3) := by decide +kernel
theorem dX4_mix_313 : decode cX4_mix 313 = .ok (.bipush 7, 2) := by decide +kernel
theorem dX4_mix_315 : decode cX4_mix 315 = .ok (.dup2, 1) := by decide +kernel
theorem dX4_mix_316 : decode cX4_mix 316 = .ok (.iaload, 1) := by decide +kernel
theorem dX4_mix_317 : decode cX4_mix 317 = .ok (.iload 8, 2) := by decide +kernel
theorem dX4_mix_319 : decode cX4_mix 319 = .ok (.iadd, 1) := by decide +kernel
theorem dX4_mix_320 : decode cX4_mix 320 = .ok (.iastore, 1) := by decide +kernel
theorem dX4_mix_321 : decode cX4_mix 321 = .ok (.return_, 1) := by decide +kernel
