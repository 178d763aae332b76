set_option maxRecDepth 20000 in
theorem ggX1_init_Jx4a65c_init_da8c8 : GoodIn wsX1_init wsJx4a65c_init_da8c8 := goodIn_r _ [16, 17, 18, 19, 20, 21, 22, 23, 24, 25, 26, 27, 28, 2, 3, 34, 35, 36] (by decide +kernel) (by decide +kernel)
set_option maxRecDepth 20000 in
theorem gX1_init_Jx4a65c_init_da8c8 : GoodIn wsX1_init (wsJx4a65c_init_da8c8) := ggX1_init_Jx4a65c_init_da8c8
set_option maxRecDepth 20000 in
theorem ggX1_init_X0_init : GoodIn wsX1_init wsX0_init := goodIn_r _ [30, 31, 2, 3, 8, 32, 33, 40, 41] (by decide +kernel) (by decide +kernel)
set_option maxRecDepth 20000 in
theorem gX1_init_X0_init_n24 : GoodIn wsX1_init (wsX0_init) := ggX1_init_X0_init
theorem dX1_init_0 : decode cX1_init 0 = .ok (.aload_n 0, 1) := by decide +kernel
theorem dX1_init_1 : decode cX1_init 1 = .ok (.invokespecial 3, 3) := by decide +kernel
theorem dX1_init_4 : decode cX1_init 4 = .ok (.aload_n 0, 1) := by decide +kernel
theorem dX1_init_5 : decode cX1_init 5 = .ok (.new 9, 3) := by decide +kernel
theorem dX1_init_8 : decode cX1_init 8 = .ok (.dup, 1) := by decide +kernel
theorem dX1_init_9 : decode cX1_init 9 = .ok (.invokespecial 11, 3) := by decide +kernel
theorem dX1_init_12 : decode cX1_init 12 = .ok (.putfield 12, 3) := by decide +kernel
theorem dX1_init_15 : decode cX1_init 15 = .ok (.aload_n 0, 1) := by decide +kernel
theorem dX1_init_16 : decode cX1_init 16 = .ok (.iconst 4, 1) := by decide +kernel
theorem dX1_init_17 : decode cX1_init 17 = .ok (.newarray .int, 2) := by decide +kernel
theorem dX1_init_19 : decode cX1_init 19 = .ok (.putfield 18, 3) := by decide +kernel
theorem dX1_init_22 : decode cX1_init 22 = .ok (.aload_n 0, 1) := by decide +kernel
theorem dX1_init_23 : decode cX1_init 23 = .ok (.new 22, 3) := by decide +kernel
theorem dX1_init_26 : decode cX1_init 26 = .ok (.dup, 1) := by decide +kernel
theorem dX1_init_27 : decode cX1_init 27 = .ok (.invokespecial 24, 3) := by decide +kernel
theorem dX1_init_30 : decode cX1_init 30 = .ok (.putfield 25, 3) := by decide +kernel
theorem dX1_init_33 : decode cX1_init 33 = .ok (.return_, 1) := by decide +kernel
set_option maxRecDepth 20000 in
theorem ggX1_note_Jx4a65c_size_8abf5 : GoodIn wsX1_note wsJx4a65c_size_8abf5 := goodIn_r _ [10, 11, 95, 96, 97] (by decide +kernel) (by decide +kernel)
set_option maxRecDepth 20000 in
theorem gX1_note_Jx4a65c_size_8abf5 : GoodIn wsX1_note (wsV RX1 29 RJx4a65c yJx4a65c_size_8abf5 wsJx4a65c_size_8abf5) := goodIn_app (goodIn_of _ (by decide +kernel)) ggX1_note_Jx4a65c_size_8abf5
set_option maxRecDepth 20000 in
theorem ggX1_note_J7_copyOf_59c91 : GoodIn wsX1_note wsJ7_copyOf_59c91 := goodIn_r _ [15, 16, 17, 18, 19, 20, 21, 22, 23, 24, 25, 26, 27, 28, 29, 30] (by decide +kernel) (by decide +kernel)
set_option maxRecDepth 20000 in
theorem gX1_note_J7_copyOf_59c91 : GoodIn wsX1_note (va_wsS RX1 35 yJ7_copyOf_59c91 wsJ7_copyOf_59c91) := goodIn_app (goodIn_of _ (by decide +kernel)) ggX1_note_J7_copyOf_59c91
set_option maxRecDepth 20000 in
theorem ggX1_note_X3_init : GoodIn wsX1_note wsX3_init := goodIn_r _ [33, 34, 35, 36, 37, 38, 39, 40, 41, 90, 91, 92, 93, 94] (by decide +kernel) (by decide +kernel)
set_option maxRecDepth 20000 in
theorem gX1_note_X3_init : GoodIn wsX1_note (wsX3_init) := ggX1_note_X3_init
set_option maxRecDepth 20000 in
theorem ggX1_note_Jx4a65c_add_9ea2d : GoodIn wsX1_note wsJx4a65c_add_9ea2d := goodIn_r _ [45, 46, 47, 48, 11, 49, 50, 51, 9, 52, 53, 54, 55, 56, 57, 58, 59, 60, 61, 62, 63, 25, 64, 65, 66, 67, 68, 69, 70, 71, 72, 73, 74, 75, 76, 14, 77, 78, 79, 80, 81, 82, 83, 84, 85, 86, 23, 24, 26, 27, 28, 29, 30, 95, 96, 97] (by decide +kernel) (by decide +kernel)
set_option maxRecDepth 20000 in
theorem gX1_note_Jx4a65c_add_9ea2d : GoodIn wsX1_note (wsV RX1 44 RJx4a65c yJx4a65c_add_9ea2d wsJx4a65c_add_9ea2d) := goodIn_app (goodIn_of _ (by decide +kernel)) ggX1_note_Jx4a65c_add_9ea2d
theorem dX1_note_0 : decode cX1_note 0 = .ok (.aload_n 0, 1) := by decide +kernel
theorem dX1_note_1 : decode cX1_note 1 = .ok (.getfield 12, 3) := by decide +kernel
theorem dX1_note_4 : decode cX1_note 4 = .ok (.invokevirtual 29, 3) := by decide +kernel
theorem dX1_note_7 : decode cX1_note 7 = .ok (.sipush 512, 3) := by decide +kernel
theorem dX1_note_10 : decode cX1_note 10 = .ok (.if_icmp .lt 4, 3) := by decide +kernel
theorem dX1_note_13 : decode cX1_note 13 = .ok (.return_, 1) := by decide +kernel
theorem dX1_note_14 : decode cX1_note 14 = .ok (.aload_n 0, 1) := by decide +kernel
theorem dX1_note_15 : decode cX1_note 15 = .ok (.getfield 18, 3) := by decide +kernel
theorem dX1_note_18 : decode cX1_note 18 = .ok (.iload_n 2, 1) := by decide +kernel
theorem dX1_note_19 : decode cX1_note 19 = .ok (.dup2, 1) := by decide +kernel
theorem dX1_note_20 : decode cX1_note 20 = .ok (.iaload, 1) := by decide +kernel
theorem dX1_note_21 : decode cX1_note 21 = .ok (.iconst 1, 1) := by decide +kernel
theorem dX1_note_22 : decode cX1_note 22 = .ok (.iadd, 1) := by decide +kernel
theorem dX1_note_23 : decode cX1_note 23 = .ok (.iastore, 1) := by decide +kernel
theorem dX1_note_24 : decode cX1_note 24 = .ok (.aload_n 0, 1) := by decide +kernel
theorem dX1_note_25 : decode cX1_note 25 = .ok (.getfield 12, 3) := by decide +kernel
theorem dX1_note_28 : decode cX1_note 28 = .ok (.new 33, 3) := by decide +kernel
theorem dX1_note_31 : decode cX1_note 31 = .ok (.dup, 1) := by decide +kernel
theorem dX1_note_32 : decode cX1_note 32 = .ok (.iload_n 1, 1) := by decide +kernel
theorem dX1_note_33 : decode cX1_note 33 = .ok (.iload_n 2, 1) := by decide +kernel
theorem dX1_note_34 : decode cX1_note 34 = .ok (.aload_n 0, 1) := by decide +kernel
theorem dX1_note_35 : decode cX1_note 35 = .ok (.getfield 18, 3) := by decide +kernel
theorem dX1_note_38 : decode cX1_note 38 = .ok (.iload_n 2, 1) := by decide +kernel
theorem dX1_note_39 : decode cX1_note 39 = .ok (.iaload, 1) := by decide +kernel
theorem dX1_note_40 : decode cX1_note 40 = .ok (.iload_n 3, 1) := by decide +kernel
theorem dX1_note_41 : decode cX1_note 41 = .ok (.aload 4, 2) := by decide +kernel
theorem dX1_note_43 : decode cX1_note 43 = .ok (.iload 5, 2) := by decide +kernel
theorem dX1_note_45 : decode cX1_note 45 = .ok (.invokestatic 35, 3) := by decide +kernel
theorem dX1_note_48 : decode cX1_note 48 = .ok (.invokespecial 41, 3) := by decide +kernel
theorem dX1_note_51 : decode cX1_note 51 = .ok (.invokevirtual 44, 3) := by decide +kernel
theorem dX1_note_54 : decode cX1_note 54 = .ok (.pop, 1) := by decide +kernel
theorem dX1_note_55 : decode cX1_note 55 = .ok (.return_, 1) := by decide +kernel
set_option maxRecDepth 20000 in
theorem ggX1_isAnsweredPlainly_X0_clear : GoodIn wsX1_isAnsweredPlainly wsX0_clear := goodIn_r _ [12, 13, 14, 15, 16, 17, 78, 79] (by decide +kernel) (by decide +kernel)
set_option maxRecDepth 20000 in
theorem gX1_isAnsweredPlainly_X0_clear : GoodIn wsX1_isAnsweredPlainly (wsV RX1 48 RX0 yX0_clear wsX0_clear) := goodIn_app (goodIn_of _ (by decide +kernel)) ggX1_isAnsweredPlainly_X0_clear
set_option maxRecDepth 20000 in
theorem ggX1_isAnsweredPlainly_Jx4a65c_size_8abf5 : GoodIn wsX1_isAnsweredPlainly wsJx4a65c_size_8abf5 := goodIn_r _ [22, 23, 80, 81, 82] (by decide +kernel) (by decide +kernel)
set_option maxRecDepth 20000 in
theorem gX1_isAnsweredPlainly_Jx4a65c_size_8abf5 : GoodIn wsX1_isAnsweredPlainly (wsV RX1 29 RJx4a65c yJx4a65c_size_8abf5 wsJx4a65c_size_8abf5) := goodIn_app (goodIn_of _ (by decide +kernel)) ggX1_isAnsweredPlainly_Jx4a65c_size_8abf5
set_option maxRecDepth 20000 in
theorem ggX1_isAnsweredPlainly_Jx4a65c_get_915e3 : GoodIn wsX1_isAnsweredPlainly wsJx4a65c_get_915e3 := goodIn_r _ [27, 23, 28, 29, 30, 31, 32, 33, 34, 35, 36, 37, 38, 21, 39, 40, 80, 81, 82] (by decide +kernel) (by decide +kernel)
set_option maxRecDepth 20000 in
theorem gX1_isAnsweredPlainly_Jx4a65c_get_915e3 : GoodIn wsX1_isAnsweredPlainly (wsV RX1 51 RJx4a65c yJx4a65c_get_915e3 wsJx4a65c_get_915e3) := goodIn_app (goodIn_of _ (by decide +kernel)) ggX1_isAnsweredPlainly_Jx4a65c_get_915e3
set_option maxRecDepth 20000 in
theorem ggX1_isAnsweredPlainly_X3_isCountedBy : GoodIn wsX1_isAnsweredPlainly wsX3_isCountedBy := goodIn_r _ [45, 46, 47, 48, 49, 50, 51, 52, 53, 73, 74, 75, 76, 77, 83] (by decide +kernel) (by decide +kernel)
set_option maxRecDepth 20000 in
theorem gX1_isAnsweredPlainly_X3_isCountedBy : GoodIn wsX1_isAnsweredPlainly (wsV RX1 55 RX3 yX3_isCountedBy wsX3_isCountedBy) := goodIn_app (goodIn_of _ (by decide +kernel)) ggX1_isAnsweredPlainly_X3_isCountedBy
set_option maxRecDepth 20000 in
theorem ggX1_isAnsweredPlainly_X0_put : GoodIn wsX1_isAnsweredPlainly wsX0_put := goodIn_r _ [57, 58, 59, 60, 61, 62, 13, 78, 79] (by decide +kernel) (by decide +kernel)
set_option maxRecDepth 20000 in
theorem gX1_isAnsweredPlainly_X0_put : GoodIn wsX1_isAnsweredPlainly (wsV RX1 70 RX0 yX0_put wsX0_put) := goodIn_app (goodIn_of _ (by decide +kernel)) ggX1_isAnsweredPlainly_X0_put
set_option maxRecDepth 20000 in
theorem ggX1_isAnsweredPlainly_X0_holds : GoodIn wsX1_isAnsweredPlainly wsX0_holds := goodIn_r _ [66, 13, 58, 67, 68, 69, 78, 79] (by decide +kernel) (by decide +kernel)
set_option maxRecDepth 20000 in
theorem gX1_isAnsweredPlainly_X0_holds : GoodIn wsX1_isAnsweredPlainly (wsV RX1 77 RX0 yX0_holds wsX0_holds) := goodIn_app (goodIn_of _ (by decide +kernel)) ggX1_isAnsweredPlainly_X0_holds
theorem dX1_isAnsweredPlainly_0 : decode cX1_isAnsweredPlainly 0 = .ok (.aload_n 0, 1) := by decide +kernel
theorem dX1_isAnsweredPlainly_1 : decode cX1_isAnsweredPlainly 1 = .ok (.getfield 25, 3) := by decide +kernel
theorem dX1_isAnsweredPlainly_4 : decode cX1_isAnsweredPlainly 4 = .ok (.invokevirtual 48, 3) := by decide +kernel
theorem dX1_isAnsweredPlainly_7 : decode cX1_isAnsweredPlainly 7 = .ok (.iconst 0, 1) := by decide +kernel
theorem dX1_isAnsweredPlainly_8 : decode cX1_isAnsweredPlainly 8 = .ok (.istore_n 3, 1) := by decide +kernel
theorem dX1_isAnsweredPlainly_9 : decode cX1_isAnsweredPlainly 9 = .ok (.iload_n 3, 1) := by decide +kernel
theorem dX1_isAnsweredPlainly_10 : decode cX1_isAnsweredPlainly 10 = .ok (.aload_n 0, 1) := by decide +kernel
theorem dX1_isAnsweredPlainly_11 : decode cX1_isAnsweredPlainly 11 = .ok (.getfield 12, 3) := by decide +kernel
theorem dX1_isAnsweredPlainly_14 : decode cX1_isAnsweredPlainly 14 = .ok (.invokevirtual 29, 3) := by decide +kernel
theorem dX1_isAnsweredPlainly_17 : decode cX1_isAnsweredPlainly 17 = .ok (.if_icmp .ge 102, 3) := by decide +kernel
theorem dX1_isAnsweredPlainly_20 : decode cX1_isAnsweredPlainly 20 = .ok (.aload_n 0, 1) := by decide +kernel
theorem dX1_isAnsweredPlainly_21 : decode cX1_isAnsweredPlainly 21 = .ok (.getfield 12, 3) := by decide +kernel
theorem dX1_isAnsweredPlainly_24 : decode cX1_isAnsweredPlainly 24 = .ok (.iload_n 3, 1) := by decide +kernel
theorem dX1_isAnsweredPlainly_25 : decode cX1_isAnsweredPlainly 25 = .ok (.invokevirtual 51, 3) := by decide +kernel
theorem dX1_isAnsweredPlainly_28 : decode cX1_isAnsweredPlainly 28 = .ok (.checkcast 33, 3) := by decide +kernel
theorem dX1_isAnsweredPlainly_31 : decode cX1_isAnsweredPlainly 31 = .ok (.astore 4, 2) := by decide +kernel
theorem dX1_isAnsweredPlainly_33 : decode cX1_isAnsweredPlainly 33 = .ok (.aload 4, 2) := by decide +kernel
theorem dX1_isAnsweredPlainly_35 : decode cX1_isAnsweredPlainly 35 = .ok (.aload_n 2, 1) := by decide +kernel
theorem dX1_isAnsweredPlainly_36 : decode cX1_isAnsweredPlainly 36 = .ok (.invokevirtual 55, 3) := by decide +kernel
theorem dX1_isAnsweredPlainly_39 : decode cX1_isAnsweredPlainly 39 = .ok (.istore 5, 2) := by decide +kernel
theorem dX1_isAnsweredPlainly_41 : decode cX1_isAnsweredPlainly 41 = .ok (.iload 5, 2) := by decide +kernel
theorem dX1_isAnsweredPlainly_43 : decode cX1_isAnsweredPlainly 43 = .ok (.ifCond .eq 34, 3) := by decide +kernel
theorem dX1_isAnsweredPlainly_46 : decode cX1_isAnsweredPlainly 46 = .ok (.aload 4, 2) := by decide +kernel
theorem dX1_isAnsweredPlainly_48 : decode cX1_isAnsweredPlainly 48 = .ok (.getfield 59, 3) := by decide +kernel
theorem dX1_isAnsweredPlainly_51 : decode cX1_isAnsweredPlainly 51 = .ok (.ifCond .eq 26, 3) := by decide +kernel
theorem dX1_isAnsweredPlainly_54 : decode cX1_isAnsweredPlainly 54 = .ok (.aload_n 0, 1) := by decide +kernel
theorem dX1_isAnsweredPlainly_55 : decode cX1_isAnsweredPlainly 55 = .ok (.getfield 25, 3) := by decide +kernel
theorem dX1_isAnsweredPlainly_58 : decode cX1_isAnsweredPlainly 58 = .ok (.aload 4, 2) := by decide +kernel
theorem dX1_isAnsweredPlainly_60 : decode cX1_isAnsweredPlainly 60 = .ok (.getfield 63, 3) := by decide +kernel
theorem dX1_isAnsweredPlainly_63 : decode cX1_isAnsweredPlainly 63 = .ok (.aload 4, 2) := by decide +kernel
theorem dX1_isAnsweredPlainly_65 : decode cX1_isAnsweredPlainly 65 = .ok (.getfield 67, 3) := by decide +kernel
theorem dX1_isAnsweredPlainly_68 : decode cX1_isAnsweredPlainly 68 = .ok (.aload 4, 2) := by decide +kernel
theorem dX1_isAnsweredPlainly_70 : decode cX1_isAnsweredPlainly 70 = .ok (.getfield 67, 3) := by decide +kernel
theorem dX1_isAnsweredPlainly_73 : decode cX1_isAnsweredPlainly 73 = .ok (.arraylength, 1) := by decide +kernel
theorem dX1_isAnsweredPlainly_74 : decode cX1_isAnsweredPlainly 74 = .ok (.invokevirtual 70, 3) := by decide +kernel
theorem dX1_isAnsweredPlainly_77 : decode cX1_isAnsweredPlainly 77 = .ok (.aload 4, 2) := by decide +kernel
theorem dX1_isAnsweredPlainly_79 : decode cX1_isAnsweredPlainly 79 = .ok (.getfield 74, 3) := by decide +kernel
theorem dX1_isAnsweredPlainly_82 : decode cX1_isAnsweredPlainly 82 = .ok (.iload_n 1, 1) := by decide +kernel
theorem dX1_isAnsweredPlainly_83 : decode cX1_isAnsweredPlainly 83 = .ok (.if_icmp .ne 30, 3) := by decide +kernel
theorem dX1_isAnsweredPlainly_86 : decode cX1_isAnsweredPlainly 86 = .ok (.iload 5, 2) := by decide +kernel
theorem dX1_isAnsweredPlainly_88 : decode cX1_isAnsweredPlainly 88 = .ok (.ifCond .eq 23, 3) := by decide +kernel
theorem dX1_isAnsweredPlainly_91 : decode cX1_isAnsweredPlainly 91 = .ok (.aload_n 0, 1) := by decide +kernel
theorem dX1_isAnsweredPlainly_92 : decode cX1_isAnsweredPlainly 92 = .ok (.getfield 25, 3) := by decide +kernel
theorem dX1_isAnsweredPlainly_95 : decode cX1_isAnsweredPlainly 95 = .ok (.aload 4, 2) := by decide +kernel
theorem dX1_isAnsweredPlainly_97 : decode cX1_isAnsweredPlainly 97 = .ok (.getfield 63, 3) := by decide +kernel
theorem dX1_isAnsweredPlainly_100 : decode cX1_isAnsweredPlainly 100 = .ok (.aload 4, 2) := by decide +kernel
theorem dX1_isAnsweredPlainly_102 : decode cX1_isAnsweredPlainly 102 = .ok (.getfield 67, 3) := by decide +kernel
theorem dX1_isAnsweredPlainly_105 : decode cX1_isAnsweredPlainly 105 = .ok (.invokevirtual 77, 3) := by decide +kernel
theorem dX1_isAnsweredPlainly_108 : decode cX1_isAnsweredPlainly 108 = .ok (.ifCond .ne 5, 3) := by decide +kernel
theorem dX1_isAnsweredPlainly_111 : decode cX1_isAnsweredPlainly 111 = .ok (.iconst 0, 1) := by decide +kernel
theorem dX1_isAnsweredPlainly_112 : decode cX1_isAnsweredPlainly 112 = .ok (.ireturn, 1) := by decide +kernel
theorem dX1_isAnsweredPlainly_113 : decode cX1_isAnsweredPlainly 113 = .ok (.iinc 3 1, 3) := by decide +kernel
theorem dX1_isAnsweredPlainly_116 : decode cX1_isAnsweredPlainly 116 = .ok (.goto (-107), 3) := by decide +kernel
theorem dX1_isAnsweredPlainly_119 : decode cX1_isAnsweredPlainly 119 = .ok (.iconst 1, 1) := by decide +kernel
theorem dX1_isAnsweredPlainly_120 : decode cX1_isAnsweredPlainly 120 = .ok (.ireturn, 1) := by decide +kernel
set_option maxRecDepth 20000 in
theorem ggX1_oneBeginsTheOther_Jx4a65c_size_8abf5 : GoodIn wsX1_oneBeginsTheOther wsJx4a65c_size_8abf5 := goodIn_r _ [7, 8, 42, 43, 44] (by decide +kernel) (by decide +kernel)
set_option maxRecDepth 20000 in
theorem gX1_oneBeginsTheOther_Jx4a65c_size_8abf5 : GoodIn wsX1_oneBeginsTheOther (wsV RX1 29 RJx4a65c yJx4a65c_size_8abf5 wsJx4a65c_size_8abf5) := goodIn_app (goodIn_of _ (by decide +kernel)) ggX1_oneBeginsTheOther_Jx4a65c_size_8abf5
set_option maxRecDepth 20000 in
theorem ggX1_oneBeginsTheOther_Jx4a65c_get_915e3 : GoodIn wsX1_oneBeginsTheOther wsJx4a65c_get_915e3 := goodIn_r _ [12, 8, 13, 14, 15, 16, 17, 18, 19, 20, 21, 22, 23, 6, 24, 25, 42, 43, 44] (by decide +kernel) (by decide +kernel)
set_option maxRecDepth 20000 in
theorem gX1_oneBeginsTheOther_Jx4a65c_get_915e3 : GoodIn wsX1_oneBeginsTheOther (wsV RX1 51 RJx4a65c yJx4a65c_get_915e3 wsJx4a65c_get_915e3) := goodIn_app (goodIn_of _ (by decide +kernel)) ggX1_oneBeginsTheOther_Jx4a65c_get_915e3
set_option maxRecDepth 20000 in
theorem ggX1_oneBeginsTheOther_X3_isCountedBy : GoodIn wsX1_oneBeginsTheOther wsX3_isCountedBy := goodIn_r _ [30, 31, 32, 33, 34, 35, 36, 37, 38, 45, 46, 47, 48, 49, 50] (by decide +kernel) (by decide +kernel)
set_option maxRecDepth 20000 in
theorem gX1_oneBeginsTheOther_X3_isCountedBy : GoodIn wsX1_oneBeginsTheOther (wsV RX1 55 RX3 yX3_isCountedBy wsX3_isCountedBy) := goodIn_app (goodIn_of _ (by decide +kernel)) ggX1_oneBeginsTheOther_X3_isCountedBy
theorem dX1_oneBeginsTheOther_0 : decode cX1_oneBeginsTheOther 0 = .ok (.iconst 0, 1) := by decide +kernel
theorem dX1_oneBeginsTheOther_1 : decode cX1_oneBeginsTheOther 1 = .ok (.istore_n 3, 1) := by decide +kernel
theorem dX1_oneBeginsTheOther_2 : decode cX1_oneBeginsTheOther 2 = .ok (.iconst 0, 1) := by decide +kernel
theorem dX1_oneBeginsTheOther_3 : decode cX1_oneBeginsTheOther 3 = .ok (.istore 4, 2) := by decide +kernel
theorem dX1_oneBeginsTheOther_5 : decode cX1_oneBeginsTheOther 5 = .ok (.iconst 0, 1) := by decide +kernel
theorem dX1_oneBeginsTheOther_6 : decode cX1_oneBeginsTheOther 6 = .ok (.istore 5, 2) := by decide +kernel
theorem dX1_oneBeginsTheOther_8 : decode cX1_oneBeginsTheOther 8 = .ok (.iload 5, 2) := by decide +kernel
theorem dX1_oneBeginsTheOther_10 : decode cX1_oneBeginsTheOther 10 = .ok (.aload_n 0, 1) := by decide +kernel
theorem dX1_oneBeginsTheOther_11 : decode cX1_oneBeginsTheOther 11 = .ok (.getfield 12, 3) := by decide +kernel
theorem dX1_oneBeginsTheOther_14 : decode cX1_oneBeginsTheOther 14 = .ok (.invokevirtual 29, 3) := by decide +kernel
theorem dX1_oneBeginsTheOther_17 : decode cX1_oneBeginsTheOther 17 = .ok (.if_icmp .ge 108, 3) := by decide +kernel
theorem dX1_oneBeginsTheOther_20 : decode cX1_oneBeginsTheOther 20 = .ok (.aload_n 0, 1) := by decide +kernel
theorem dX1_oneBeginsTheOther_21 : decode cX1_oneBeginsTheOther 21 = .ok (.getfield 12, 3) := by decide +kernel
theorem dX1_oneBeginsTheOther_24 : decode cX1_oneBeginsTheOther 24 = .ok (.iload 5, 2) := by decide +kernel
theorem dX1_oneBeginsTheOther_26 : decode cX1_oneBeginsTheOther 26 = .ok (.invokevirtual 51, 3) := by decide +kernel
theorem dX1_oneBeginsTheOther_29 : decode cX1_oneBeginsTheOther 29 = .ok (.checkcast 33, 3) := by decide +kernel
theorem dX1_oneBeginsTheOther_32 : decode cX1_oneBeginsTheOther 32 = .ok (.aload_n 1, 1) := by decide +kernel
theorem dX1_oneBeginsTheOther_33 : decode cX1_oneBeginsTheOther 33 = .ok (.invokevirtual 55, 3) := by decide +kernel
theorem dX1_oneBeginsTheOther_36 : decode cX1_oneBeginsTheOther 36 = .ok (.istore 6, 2) := by decide +kernel
theorem dX1_oneBeginsTheOther_38 : decode cX1_oneBeginsTheOther 38 = .ok (.aload_n 0, 1) := by decide +kernel
theorem dX1_oneBeginsTheOther_39 : decode cX1_oneBeginsTheOther 39 = .ok (.getfield 12, 3) := by decide +kernel
theorem dX1_oneBeginsTheOther_42 : decode cX1_oneBeginsTheOther 42 = .ok (.iload 5, 2) := by decide +kernel
theorem dX1_oneBeginsTheOther_44 : decode cX1_oneBeginsTheOther 44 = .ok (.invokevirtual 51, 3) := by decide +kernel
theorem dX1_oneBeginsTheOther_47 : decode cX1_oneBeginsTheOther 47 = .ok (.checkcast 33, 3) := by decide +kernel
theorem dX1_oneBeginsTheOther_50 : decode cX1_oneBeginsTheOther 50 = .ok (.aload_n 2, 1) := by decide +kernel
theorem dX1_oneBeginsTheOther_51 : decode cX1_oneBeginsTheOther 51 = .ok (.invokevirtual 55, 3) := by decide +kernel
theorem dX1_oneBeginsTheOther_54 : decode cX1_oneBeginsTheOther 54 = .ok (.istore 7, 2) := by decide +kernel
theorem dX1_oneBeginsTheOther_56 : decode cX1_oneBeginsTheOther 56 = .ok (.iload 6, 2) := by decide +kernel
theorem dX1_oneBeginsTheOther_58 : decode cX1_oneBeginsTheOther 58 = .ok (.ifCond .eq 7, 3) := by decide +kernel
theorem dX1_oneBeginsTheOther_61 : decode cX1_oneBeginsTheOther 61 = .ok (.iload_n 3, 1) := by decide +kernel
theorem dX1_oneBeginsTheOther_62 : decode cX1_oneBeginsTheOther 62 = .ok (.ifCond .ne 13, 3) := by decide +kernel
theorem dX1_oneBeginsTheOther_65 : decode cX1_oneBeginsTheOther 65 = .ok (.iload 7, 2) := by decide +kernel
theorem dX1_oneBeginsTheOther_67 : decode cX1_oneBeginsTheOther 67 = .ok (.ifCond .eq 10, 3) := by decide +kernel
theorem dX1_oneBeginsTheOther_70 : decode cX1_oneBeginsTheOther 70 = .ok (.iload 4, 2) := by decide +kernel
theorem dX1_oneBeginsTheOther_72 : decode cX1_oneBeginsTheOther 72 = .ok (.ifCond .eq 5, 3) := by decide +kernel
theorem dX1_oneBeginsTheOther_75 : decode cX1_oneBeginsTheOther 75 = .ok (.iconst 0, 1) := by decide +kernel
theorem dX1_oneBeginsTheOther_76 : decode cX1_oneBeginsTheOther 76 = .ok (.ireturn, 1) := by decide +kernel
theorem dX1_oneBeginsTheOther_77 : decode cX1_oneBeginsTheOther 77 = .ok (.iload_n 3, 1) := by decide +kernel
theorem dX1_oneBeginsTheOther_78 : decode cX1_oneBeginsTheOther 78 = .ok (.ifCond .ne 13, 3) := by decide +kernel
theorem dX1_oneBeginsTheOther_81 : decode cX1_oneBeginsTheOther 81 = .ok (.iload 7, 2) := by decide +kernel
theorem dX1_oneBeginsTheOther_83 : decode cX1_oneBeginsTheOther 83 = .ok (.ifCond .eq 12, 3) := by decide +kernel
theorem dX1_oneBeginsTheOther_86 : decode cX1_oneBeginsTheOther 86 = .ok (.iload 6, 2) := by decide +kernel
theorem dX1_oneBeginsTheOther_88 : decode cX1_oneBeginsTheOther 88 = .ok (.ifCond .ne 7, 3) := by decide +kernel
theorem dX1_oneBeginsTheOther_91 : decode cX1_oneBeginsTheOther 91 = .ok (.iconst 1, 1) := by decide +kernel
theorem dX1_oneBeginsTheOther_92 : decode cX1_oneBeginsTheOther 92 = .ok (.goto 4, 3) := by decide +kernel
theorem dX1_oneBeginsTheOther_95 : decode cX1_oneBeginsTheOther 95 = .ok (.iconst 0, 1) := by decide +kernel
theorem dX1_oneBeginsTheOther_96 : decode cX1_oneBeginsTheOther 96 = .ok (.istore_n 3, 1) := by decide +kernel
theorem dX1_oneBeginsTheOther_97 : decode cX1_oneBeginsTheOther 97 = .ok (.iload 4, 2) := by decide +kernel
theorem dX1_oneBeginsTheOther_99 : decode cX1_oneBeginsTheOther 99 = .ok (.ifCond .ne 13, 3) := by decide +kernel
theorem dX1_oneBeginsTheOther_102 : decode cX1_oneBeginsTheOther 102 = .ok (.iload 6, 2) := by decide +kernel
theorem dX1_oneBeginsTheOther_104 : decode cX1_oneBeginsTheOther 104 = .ok (.ifCond .eq 12, 3) := by decide +kernel
theorem dX1_oneBeginsTheOther_107 : decode cX1_oneBeginsTheOther 107 = .ok (.iload 7, 2) := by decide +kernel
theorem dX1_oneBeginsTheOther_109 : decode cX1_oneBeginsTheOther 109 = .ok (.ifCond .ne 7, 3) := by decide +kernel
theorem dX1_oneBeginsTheOther_112 : decode cX1_oneBeginsTheOther 112 = .ok (.iconst 1, 1) := by decide +kernel
theorem dX1_oneBeginsTheOther_113 : decode cX1_oneBeginsTheOther 113 = .ok (.goto 4, 3) := by decide +kernel
theorem dX1_oneBeginsTheOther_116 : decode cX1_oneBeginsTheOther 116 = .ok (.iconst 0, 1) := by decide +kernel
theorem dX1_oneBeginsTheOther_117 : decode cX1_oneBeginsTheOther 117 = .ok (.istore 4, 2) := by decide +kernel
theorem dX1_oneBeginsTheOther_119 : decode cX1_oneBeginsTheOther 119 = .ok (.iinc 5 1, 3) := by decide +kernel
theorem dX1_oneBeginsTheOther_122 : decode cX1_oneBeginsTheOther 122 = .ok (.goto (-114), 3) := by decide +kernel
theorem dX1_oneBeginsTheOther_125 : decode cX1_oneBeginsTheOther 125 = .ok (.iconst 1, 1) := by decide +kernel
theorem dX1_oneBeginsTheOther_126 : decode cX1_oneBeginsTheOther 126 = .ok (.ireturn, 1) := by decide +kernel
