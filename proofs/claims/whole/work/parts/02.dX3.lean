theorem dX3_init_0 : decode cX3_init 0 = .ok (.aload_n 0, 1) := by decide +kernel
theorem dX3_init_1 : decode cX3_init 1 = .ok (.invokespecial 1, 3) := by decide +kernel
theorem dX3_init_4 : decode cX3_init 4 = .ok (.aload_n 0, 1) := by decide +kernel
theorem dX3_init_5 : decode cX3_init 5 = .ok (.iload_n 1, 1) := by decide +kernel
theorem dX3_init_6 : decode cX3_init 6 = .ok (.putfield 7, 3) := by decide +kernel
theorem dX3_init_9 : decode cX3_init 9 = .ok (.aload_n 0, 1) := by decide +kernel
theorem dX3_init_10 : decode cX3_init 10 = .ok (.iload_n 2, 1) := by decide +kernel
theorem dX3_init_11 : decode cX3_init 11 = .ok (.putfield 13, 3) := by decide +kernel
theorem dX3_init_14 : decode cX3_init 14 = .ok (.aload_n 0, 1) := by decide +kernel
theorem dX3_init_15 : decode cX3_init 15 = .ok (.iload_n 3, 1) := by decide +kernel
theorem dX3_init_16 : decode cX3_init 16 = .ok (.putfield 17, 3) := by decide +kernel
theorem dX3_init_19 : decode cX3_init 19 = .ok (.aload_n 0, 1) := by decide +kernel
theorem dX3_init_20 : decode cX3_init 20 = .ok (.iload 4, 2) := by decide +kernel
theorem dX3_init_22 : decode cX3_init 22 = .ok (.putfield 20, 3) := by decide +kernel
theorem dX3_init_25 : decode cX3_init 25 = .ok (.aload_n 0, 1) := by decide +kernel
theorem dX3_init_26 : decode cX3_init 26 = .ok (.aload 5, 2) := by decide +kernel
theorem dX3_init_28 : decode cX3_init 28 = .ok (.putfield 23, 3) := by decide +kernel
theorem dX3_init_31 : decode cX3_init 31 = .ok (.return_, 1) := by decide +kernel
set_option maxRecDepth 20000 in
theorem ggX3_isCountedBy_X5_countOf : GoodIn wsX3_isCountedBy wsX5_countOf := goodIn_r _ [7, 8, 14] (by decide +kernel) (by decide +kernel)
set_option maxRecDepth 20000 in
theorem gX3_isCountedBy_X5_countOf : GoodIn wsX3_isCountedBy (wsV RX3 27 RX5 yX5_countOf wsX5_countOf) := goodIn_app (goodIn_of _ (by decide +kernel)) ggX3_isCountedBy_X5_countOf
theorem dX3_isCountedBy_0 : decode cX3_isCountedBy 0 = .ok (.aload_n 0, 1) := by decide +kernel
theorem dX3_isCountedBy_1 : decode cX3_isCountedBy 1 = .ok (.getfield 17, 3) := by decide +kernel
theorem dX3_isCountedBy_4 : decode cX3_isCountedBy 4 = .ok (.i2l, 1) := by decide +kernel
theorem dX3_isCountedBy_5 : decode cX3_isCountedBy 5 = .ok (.aload_n 1, 1) := by decide +kernel
theorem dX3_isCountedBy_6 : decode cX3_isCountedBy 6 = .ok (.aload_n 0, 1) := by decide +kernel
theorem dX3_isCountedBy_7 : decode cX3_isCountedBy 7 = .ok (.getfield 13, 3) := by decide +kernel
theorem dX3_isCountedBy_10 : decode cX3_isCountedBy 10 = .ok (.invokevirtual 27, 3) := by decide +kernel
theorem dX3_isCountedBy_13 : decode cX3_isCountedBy 13 = .ok (.lcmp, 1) := by decide +kernel
theorem dX3_isCountedBy_14 : decode cX3_isCountedBy 14 = .ok (.ifCond .gt 7, 3) := by decide +kernel
theorem dX3_isCountedBy_17 : decode cX3_isCountedBy 17 = .ok (.iconst 1, 1) := by decide +kernel
theorem dX3_isCountedBy_18 : decode cX3_isCountedBy 18 = .ok (.goto 4, 3) := by decide +kernel
theorem dX3_isCountedBy_21 : decode cX3_isCountedBy 21 = .ok (.iconst 0, 1) := by decide +kernel
theorem dX3_isCountedBy_22 : decode cX3_isCountedBy 22 = .ok (.ireturn, 1) := by decide +kernel
