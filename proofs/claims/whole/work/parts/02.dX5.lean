theorem dX5_init_0 : decode cX5_init 0 = .ok (.aload_n 0, 1) := by decide +kernel
theorem dX5_init_1 : decode cX5_init 1 = .ok (.invokespecial 3, 3) := by decide +kernel
theorem dX5_init_4 : decode cX5_init 4 = .ok (.aload_n 0, 1) := by decide +kernel
theorem dX5_init_5 : decode cX5_init 5 = .ok (.bipush 84, 2) := by decide +kernel
theorem dX5_init_7 : decode cX5_init 7 = .ok (.newarray .int, 2) := by decide +kernel
theorem dX5_init_9 : decode cX5_init 9 = .ok (.putfield 9, 3) := by decide +kernel
theorem dX5_init_12 : decode cX5_init 12 = .ok (.aload_n 0, 1) := by decide +kernel
theorem dX5_init_13 : decode cX5_init 13 = .ok (.getfield 9, 3) := by decide +kernel
theorem dX5_init_16 : decode cX5_init 16 = .ok (.iconst 0, 1) := by decide +kernel
theorem dX5_init_17 : decode cX5_init 17 = .ok (.iload_n 1, 1) := by decide +kernel
theorem dX5_init_18 : decode cX5_init 18 = .ok (.iastore, 1) := by decide +kernel
theorem dX5_init_19 : decode cX5_init 19 = .ok (.return_, 1) := by decide +kernel
theorem dX5_become_0 : decode cX5_become 0 = .ok (.aload_n 1, 1) := by decide +kernel
theorem dX5_become_1 : decode cX5_become 1 = .ok (.getfield 9, 3) := by decide +kernel
theorem dX5_become_4 : decode cX5_become 4 = .ok (.iconst 0, 1) := by decide +kernel
theorem dX5_become_5 : decode cX5_become 5 = .ok (.aload_n 0, 1) := by decide +kernel
theorem dX5_become_6 : decode cX5_become 6 = .ok (.getfield 9, 3) := by decide +kernel
theorem dX5_become_9 : decode cX5_become 9 = .ok (.iconst 0, 1) := by decide +kernel
theorem dX5_become_10 : decode cX5_become 10 = .ok (.bipush 84, 2) := by decide +kernel
theorem dX5_become_12 : decode cX5_become 12 = .ok (.invokestatic 15, 3) := by decide +kernel
theorem dX5_become_15 : decode cX5_become 15 = .ok (.return_, 1) := by decide +kernel
theorem dX5_countOf_0 : decode cX5_countOf 0 = .ok (.lconst 0, 1) := by decide +kernel
theorem dX5_countOf_1 : decode cX5_countOf 1 = .ok (.lstore_n 2, 1) := by decide +kernel
theorem dX5_countOf_2 : decode cX5_countOf 2 = .ok (.iconst 0, 1) := by decide +kernel
theorem dX5_countOf_3 : decode cX5_countOf 3 = .ok (.istore 4, 2) := by decide +kernel
theorem dX5_countOf_5 : decode cX5_countOf 5 = .ok (.iload 4, 2) := by decide +kernel
theorem dX5_countOf_7 : decode cX5_countOf 7 = .ok (.iconst 4, 1) := by decide +kernel
theorem dX5_countOf_8 : decode cX5_countOf 8 = .ok (.if_icmp .ge 29, 3) := by decide +kernel
theorem dX5_countOf_11 : decode cX5_countOf 11 = .ok (.lload_n 2, 1) := by decide +kernel
theorem dX5_countOf_12 : decode cX5_countOf 12 = .ok (.bipush 8, 2) := by decide +kernel
theorem dX5_countOf_14 : decode cX5_countOf 14 = .ok (.lshl, 1) := by decide +kernel
theorem dX5_countOf_15 : decode cX5_countOf 15 = .ok (.aload_n 0, 1) := by decide +kernel
theorem dX5_countOf_16 : decode cX5_countOf 16 = .ok (.getfield 9, 3) := by decide +kernel
theorem dX5_countOf_19 : decode cX5_countOf 19 = .ok (.iconst 4, 1) := by decide +kernel
theorem dX5_countOf_20 : decode cX5_countOf 20 = .ok (.iconst 4, 1) := by decide +kernel
theorem dX5_countOf_21 : decode cX5_countOf 21 = .ok (.iload_n 1, 1) := by decide +kernel
theorem dX5_countOf_22 : decode cX5_countOf 22 = .ok (.imul, 1) := by decide +kernel
theorem dX5_countOf_23 : decode cX5_countOf 23 = .ok (.iadd, 1) := by decide +kernel
theorem dX5_countOf_24 : decode cX5_countOf 24 = .ok (.iload 4, 2) := by decide +kernel
theorem dX5_countOf_26 : decode cX5_countOf 26 = .ok (.iadd, 1) := by decide +kernel
theorem dX5_countOf_27 : decode cX5_countOf 27 = .ok (.iaload, 1) := by decide +kernel
theorem dX5_countOf_28 : decode cX5_countOf 28 = .ok (.i2l, 1) := by decide +kernel
theorem dX5_countOf_29 : decode cX5_countOf 29 = .ok (.lor, 1) := by decide +kernel
theorem dX5_countOf_30 : decode cX5_countOf 30 = .ok (.lstore_n 2, 1) := by decide +kernel
theorem dX5_countOf_31 : decode cX5_countOf 31 = .ok (.iinc 4 1, 3) := by decide +kernel
theorem dX5_countOf_34 : decode cX5_countOf 34 = .ok (.goto (-29), 3) := by decide +kernel
theorem dX5_countOf_37 : decode cX5_countOf 37 = .ok (.lload_n 2, 1) := by decide +kernel
theorem dX5_countOf_38 : decode cX5_countOf 38 = .ok (.lreturn, 1) := by decide +kernel
theorem dX5_setCount_0 : decode cX5_setCount 0 = .ok (.iconst 0, 1) := by decide +kernel
theorem dX5_setCount_1 : decode cX5_setCount 1 = .ok (.istore 4, 2) := by decide +kernel
theorem dX5_setCount_3 : decode cX5_setCount 3 = .ok (.iload 4, 2) := by decide +kernel
theorem dX5_setCount_5 : decode cX5_setCount 5 = .ok (.iconst 4, 1) := by decide +kernel
theorem dX5_setCount_6 : decode cX5_setCount 6 = .ok (.if_icmp .ge 37, 3) := by decide +kernel
theorem dX5_setCount_9 : decode cX5_setCount 9 = .ok (.aload_n 0, 1) := by decide +kernel
theorem dX5_setCount_10 : decode cX5_setCount 10 = .ok (.getfield 9, 3) := by decide +kernel
theorem dX5_setCount_13 : decode cX5_setCount 13 = .ok (.iconst 4, 1) := by decide +kernel
theorem dX5_setCount_14 : decode cX5_setCount 14 = .ok (.iconst 4, 1) := by decide +kernel
theorem dX5_setCount_15 : decode cX5_setCount 15 = .ok (.iload_n 1, 1) := by decide +kernel
theorem dX5_setCount_16 : decode cX5_setCount 16 = .ok (.imul, 1) := by decide +kernel
theorem dX5_setCount_17 : decode cX5_setCount 17 = .ok (.iadd, 1) := by decide +kernel
theorem dX5_setCount_18 : decode cX5_setCount 18 = .ok (.iload 4, 2) := by decide +kernel
theorem dX5_setCount_20 : decode cX5_setCount 20 = .ok (.iadd, 1) := by decide +kernel
theorem dX5_setCount_21 : decode cX5_setCount 21 = .ok (.lload_n 2, 1) := by decide +kernel
theorem dX5_setCount_22 : decode cX5_setCount 22 = .ok (.bipush 24, 2) := by decide +kernel
theorem dX5_setCount_24 : decode cX5_setCount 24 = .ok (.bipush 8, 2) := by decide +kernel
theorem dX5_setCount_26 : decode cX5_setCount 26 = .ok (.iload 4, 2) := by decide +kernel
theorem dX5_setCount_28 : decode cX5_setCount 28 = .ok (.imul, 1) := by decide +kernel
theorem dX5_setCount_29 : decode cX5_setCount 29 = .ok (.isub, 1) := by decide +kernel
theorem dX5_setCount_30 : decode cX5_setCount 30 = .ok (.lushr, 1) := by decide +kernel
theorem dX5_setCount_31 : decode cX5_setCount 31 = .ok (.l2i, 1) := by decide +kernel
theorem dX5_setCount_32 : decode cX5_setCount 32 = .ok (.sipush 255, 3) := by decide +kernel
theorem dX5_setCount_35 : decode cX5_setCount 35 = .ok (.iand, 1) := by decide +kernel
theorem dX5_setCount_36 : decode cX5_setCount 36 = .ok (.iastore, 1) := by decide +kernel
theorem dX5_setCount_37 : decode cX5_setCount 37 = .ok (.iinc 4 1, 3) := by decide +kernel
theorem dX5_setCount_40 : decode cX5_setCount 40 = .ok (.goto (-37), 3) := by decide +kernel
theorem dX5_setCount_43 : decode cX5_setCount 43 = .ok (.return_, 1) := by decide +kernel
set_option maxRecDepth 20000 in
theorem ggX5_isNotAbove_X5_countOf : GoodIn wsX5_isNotAbove wsX5_countOf := goodIn_r _ [5, 6, 7] (by decide +kernel) (by decide +kernel)
set_option maxRecDepth 20000 in
theorem gX5_isNotAbove_X5_countOf : GoodIn wsX5_isNotAbove (wsV RX5 21 RX5 yX5_countOf wsX5_countOf) := goodIn_app (goodIn_of _ (by decide +kernel)) ggX5_isNotAbove_X5_countOf
theorem dX5_isNotAbove_0 : decode cX5_isNotAbove 0 = .ok (.iconst 0, 1) := by decide +kernel
theorem dX5_isNotAbove_1 : decode cX5_isNotAbove 1 = .ok (.istore_n 2, 1) := by decide +kernel
theorem dX5_isNotAbove_2 : decode cX5_isNotAbove 2 = .ok (.iload_n 2, 1) := by decide +kernel
theorem dX5_isNotAbove_3 : decode cX5_isNotAbove 3 = .ok (.iconst 4, 1) := by decide +kernel
theorem dX5_isNotAbove_4 : decode cX5_isNotAbove 4 = .ok (.if_icmp .ge 25, 3) := by decide +kernel
theorem dX5_isNotAbove_7 : decode cX5_isNotAbove 7 = .ok (.aload_n 0, 1) := by decide +kernel
theorem dX5_isNotAbove_8 : decode cX5_isNotAbove 8 = .ok (.iload_n 2, 1) := by decide +kernel
theorem dX5_isNotAbove_9 : decode cX5_isNotAbove 9 = .ok (.invokevirtual 21, 3) := by decide +kernel
theorem dX5_isNotAbove_12 : decode cX5_isNotAbove 12 = .ok (.aload_n 1, 1) := by decide +kernel
theorem dX5_isNotAbove_13 : decode cX5_isNotAbove 13 = .ok (.iload_n 2, 1) := by decide +kernel
theorem dX5_isNotAbove_14 : decode cX5_isNotAbove 14 = .ok (.invokevirtual 21, 3) := by decide +kernel
theorem dX5_isNotAbove_17 : decode cX5_isNotAbove 17 = .ok (.lcmp, 1) := by decide +kernel
theorem dX5_isNotAbove_18 : decode cX5_isNotAbove 18 = .ok (.ifCond .le 5, 3) := by decide +kernel
theorem dX5_isNotAbove_21 : decode cX5_isNotAbove 21 = .ok (.iconst 0, 1) := by decide +kernel
theorem dX5_isNotAbove_22 : decode cX5_isNotAbove 22 = .ok (.ireturn, 1) := by decide +kernel
theorem dX5_isNotAbove_23 : decode cX5_isNotAbove 23 = .ok (.iinc 2 1, 3) := by decide +kernel
theorem dX5_isNotAbove_26 : decode cX5_isNotAbove 26 = .ok (.goto (-24), 3) := by decide +kernel
theorem dX5_isNotAbove_29 : decode cX5_isNotAbove 29 = .ok (.iconst 1, 1) := by decide +kernel
theorem dX5_isNotAbove_30 : decode cX5_isNotAbove 30 = .ok (.ireturn, 1) := by decide +kernel
set_option maxRecDepth 20000 in
theorem ggX5_isInLineWith_X5_isNotAbove : GoodIn wsX5_isInLineWith wsX5_isNotAbove := goodIn_r _ [5, 6, 7, 8, 4, 9, 10, 11] (by decide +kernel) (by decide +kernel)
set_option maxRecDepth 20000 in
theorem gX5_isInLineWith_X5_isNotAbove : GoodIn wsX5_isInLineWith (wsV RX5 25 RX5 yX5_isNotAbove wsX5_isNotAbove) := goodIn_app (goodIn_of _ (by decide +kernel)) ggX5_isInLineWith_X5_isNotAbove
theorem dX5_isInLineWith_0 : decode cX5_isInLineWith 0 = .ok (.aload_n 0, 1) := by decide +kernel
theorem dX5_isInLineWith_1 : decode cX5_isInLineWith 1 = .ok (.aload_n 1, 1) := by decide +kernel
theorem dX5_isInLineWith_2 : decode cX5_isInLineWith 2 = .ok (.invokevirtual 25, 3) := by decide +kernel
theorem dX5_isInLineWith_5 : decode cX5_isInLineWith 5 = .ok (.ifCond .ne 11, 3) := by decide +kernel
theorem dX5_isInLineWith_8 : decode cX5_isInLineWith 8 = .ok (.aload_n 1, 1) := by decide +kernel
theorem dX5_isInLineWith_9 : decode cX5_isInLineWith 9 = .ok (.aload_n 0, 1) := by decide +kernel
theorem dX5_isInLineWith_10 : decode cX5_isInLineWith 10 = .ok (.invokevirtual 25, 3) := by decide +kernel
theorem dX5_isInLineWith_13 : decode cX5_isInLineWith 13 = .ok (.ifCond .eq 7, 3) := by decide +kernel
theorem dX5_isInLineWith_16 : decode cX5_isInLineWith 16 = .ok (.iconst 1, 1) := by decide +kernel
theorem dX5_isInLineWith_17 : decode cX5_isInLineWith 17 = .ok (.goto 4, 3) := by decide +kernel
theorem dX5_isInLineWith_20 : decode cX5_isInLineWith 20 = .ok (.iconst 0, 1) := by decide +kernel
theorem dX5_isInLineWith_21 : decode cX5_isInLineWith 21 = .ok (.ireturn, 1) := by decide +kernel
