theorem dX9_isNotAbove_33 : decode cX9_isNotAbove 33 = .ok (.iconst 1, 1) := by decide +kernel
theorem dX9_isNotAbove_34 : decode cX9_isNotAbove 34 = .ok (.goto 4, 3) := by decide +kernel
theorem dX9_isNotAbove_37 : decode cX9_isNotAbove 37 = .ok (.iconst 0, 1) := by decide +kernel
theorem dX9_isNotAbove_38 : decode cX9_isNotAbove 38 = .ok (.istore_n 3, 1) := by decide +kernel
theorem dX9_isNotAbove_39 : decode cX9_isNotAbove 39 = .ok (.iinc 4 1, 3) := by decide +kernel
theorem dX9_isNotAbove_42 : decode cX9_isNotAbove 42 = .ok (.goto (-37), 3) := by decide +kernel
theorem dX9_isNotAbove_45 : decode cX9_isNotAbove 45 = .ok (.iload_n 3, 1) := by decide +kernel
theorem dX9_isNotAbove_46 : decode cX9_isNotAbove 46 = .ok (.ireturn, 1) := by decide +kernel
set_option maxRecDepth 20000 in
theorem ggX9_isSigned_X9_placeOf : GoodIn wsX9_isSigned wsX9_placeOf := goodIn_r _ [8] (by decide +kernel) (by decide +kernel)
set_option maxRecDepth 20000 in
theorem gX9_isSigned_X9_placeOf : GoodIn wsX9_isSigned (va_wsS RX9 170 yX9_placeOf wsX9_placeOf) := goodIn_app (goodIn_of _ (by decide +kernel)) ggX9_isSigned_X9_placeOf
set_option maxRecDepth 20000 in
theorem ggX9_isSigned_X9_mac : GoodIn wsX9_isSigned wsX9_mac := goodIn_r _ [12, 13, 1, 2, 14, 4, 15, 16, 17, 7, 18, 19, 20, 21, 22, 23, 24, 25, 26, 27, 28, 29, 30, 31, 32, 33, 34, 35, 36, 37, 38, 39, 40, 41, 42, 43, 44, 45, 46, 47, 48, 49, 50, 51, 52, 53, 54, 55, 56, 57, 58, 59, 60, 61] (by decide +kernel) (by decide +kernel)
set_option maxRecDepth 20000 in
theorem gX9_isSigned_X9_mac : GoodIn wsX9_isSigned (wsV RX9 167 RX9 yX9_mac wsX9_mac) := goodIn_app (goodIn_of _ (by decide +kernel)) ggX9_isSigned_X9_mac
theorem dX9_isSigned_0 : decode cX9_isSigned 0 = .ok (.iload_n 1, 1) := by decide +kernel
theorem dX9_isSigned_1 : decode cX9_isSigned 1 = .ok (.iload_n 2, 1) := by decide +kernel
theorem dX9_isSigned_2 : decode cX9_isSigned 2 = .ok (.invokestatic 170, 3) := by decide +kernel
theorem dX9_isSigned_5 : decode cX9_isSigned 5 = .ok (.istore_n 3, 1) := by decide +kernel
theorem dX9_isSigned_6 : decode cX9_isSigned 6 = .ok (.aload_n 0, 1) := by decide +kernel
theorem dX9_isSigned_7 : decode cX9_isSigned 7 = .ok (.bipush 52, 2) := by decide +kernel
theorem dX9_isSigned_9 : decode cX9_isSigned 9 = .ok (.putfield 161, 3) := by decide +kernel
theorem dX9_isSigned_12 : decode cX9_isSigned 12 = .ok (.iconst 0, 1) := by decide +kernel
theorem dX9_isSigned_13 : decode cX9_isSigned 13 = .ok (.istore 4, 2) := by decide +kernel
theorem dX9_isSigned_15 : decode cX9_isSigned 15 = .ok (.iload 4, 2) := by decide +kernel
theorem dX9_isSigned_17 : decode cX9_isSigned 17 = .ok (.bipush 52, 2) := by decide +kernel
theorem dX9_isSigned_19 : decode cX9_isSigned 19 = .ok (.if_icmp .ge 25, 3) := by decide +kernel
theorem dX9_isSigned_22 : decode cX9_isSigned 22 = .ok (.aload_n 0, 1) := by decide +kernel
theorem dX9_isSigned_23 : decode cX9_isSigned 23 = .ok (.getfield 131, 3) := by decide +kernel
theorem dX9_isSigned_26 : decode cX9_isSigned 26 = .ok (.iload 4, 2) := by decide +kernel
theorem dX9_isSigned_28 : decode cX9_isSigned 28 = .ok (.aload_n 0, 1) := by decide +kernel
theorem dX9_isSigned_29 : decode cX9_isSigned 29 = .ok (.getfield 88, 3) := by decide +kernel
theorem dX9_isSigned_32 : decode cX9_isSigned 32 = .ok (.iload_n 3, 1) := by decide +kernel
theorem dX9_isSigned_33 : decode cX9_isSigned 33 = .ok (.iload 4, 2) := by decide +kernel
theorem dX9_isSigned_35 : decode cX9_isSigned 35 = .ok (.iadd, 1) := by decide +kernel
theorem dX9_isSigned_36 : decode cX9_isSigned 36 = .ok (.iaload, 1) := by decide +kernel
theorem dX9_isSigned_37 : decode cX9_isSigned 37 = .ok (.iastore, 1) := by decide +kernel
theorem dX9_isSigned_38 : decode cX9_isSigned 38 = .ok (.iinc 4 1, 3) := by decide +kernel
theorem dX9_isSigned_41 : decode cX9_isSigned 41 = .ok (.goto (-26), 3) := by decide +kernel
theorem dX9_isSigned_44 : decode cX9_isSigned 44 = .ok (.aload_n 0, 1) := by decide +kernel
theorem dX9_isSigned_45 : decode cX9_isSigned 45 = .ok (.invokevirtual 167, 3) := by decide +kernel
theorem dX9_isSigned_48 : decode cX9_isSigned 48 = .ok (.aload_n 0, 1) := by decide +kernel
theorem dX9_isSigned_49 : decode cX9_isSigned 49 = .ok (.getfield 88, 3) := by decide +kernel
theorem dX9_isSigned_52 : decode cX9_isSigned 52 = .ok (.iload_n 3, 1) := by decide +kernel
theorem dX9_isSigned_53 : decode cX9_isSigned 53 = .ok (.iaload, 1) := by decide +kernel
theorem dX9_isSigned_54 : decode cX9_isSigned 54 = .ok (.iload_n 2, 1) := by decide +kernel
theorem dX9_isSigned_55 : decode cX9_isSigned 55 = .ok (.if_icmp .ne 7, 3) := by decide +kernel
theorem dX9_isSigned_58 : decode cX9_isSigned 58 = .ok (.iconst 1, 1) := by decide +kernel
theorem dX9_isSigned_59 : decode cX9_isSigned 59 = .ok (.goto 4, 3) := by decide +kernel
theorem dX9_isSigned_62 : decode cX9_isSigned 62 = .ok (.iconst 0, 1) := by decide +kernel
theorem dX9_isSigned_63 : decode cX9_isSigned 63 = .ok (.istore 4, 2) := by decide +kernel
theorem dX9_isSigned_65 : decode cX9_isSigned 65 = .ok (.iconst 0, 1) := by decide +kernel
theorem dX9_isSigned_66 : decode cX9_isSigned 66 = .ok (.istore 5, 2) := by decide +kernel
theorem dX9_isSigned_68 : decode cX9_isSigned 68 = .ok (.iload 5, 2) := by decide +kernel
theorem dX9_isSigned_70 : decode cX9_isSigned 70 = .ok (.bipush 32, 2) := by decide +kernel
theorem dX9_isSigned_72 : decode cX9_isSigned 72 = .ok (.if_icmp .ge 43, 3) := by decide +kernel
theorem dX9_isSigned_75 : decode cX9_isSigned 75 = .ok (.iload 4, 2) := by decide +kernel
theorem dX9_isSigned_77 : decode cX9_isSigned 77 = .ok (.ifCond .eq 29, 3) := by decide +kernel
theorem dX9_isSigned_80 : decode cX9_isSigned 80 = .ok (.aload_n 0, 1) := by decide +kernel
theorem dX9_isSigned_81 : decode cX9_isSigned 81 = .ok (.getfield 88, 3) := by decide +kernel
theorem dX9_isSigned_84 : decode cX9_isSigned 84 = .ok (.iload_n 3, 1) := by decide +kernel
theorem dX9_isSigned_85 : decode cX9_isSigned 85 = .ok (.bipush 52, 2) := by decide +kernel
theorem dX9_isSigned_87 : decode cX9_isSigned 87 = .ok (.iadd, 1) := by decide +kernel
theorem dX9_isSigned_88 : decode cX9_isSigned 88 = .ok (.iload 5, 2) := by decide +kernel
theorem dX9_isSigned_90 : decode cX9_isSigned 90 = .ok (.iadd, 1) := by decide +kernel
theorem dX9_isSigned_91 : decode cX9_isSigned 91 = .ok (.iaload, 1) := by decide +kernel
theorem dX9_isSigned_92 : decode cX9_isSigned 92 = .ok (.aload_n 0, 1) := by decide +kernel
theorem dX9_isSigned_93 : decode cX9_isSigned 93 = .ok (.getfield 116, 3) := by decide +kernel
theorem dX9_isSigned_96 : decode cX9_isSigned 96 = .ok (.iload 5, 2) := by decide +kernel
theorem dX9_isSigned_98 : decode cX9_isSigned 98 = .ok (.iaload, 1) := by decide +kernel
theorem dX9_isSigned_99 : decode cX9_isSigned 99 = .ok (.if_icmp .ne 7, 3) := by decide +kernel
theorem dX9_isSigned_102 : decode cX9_isSigned 102 = .ok (.iconst 1, 1) := by decide +kernel
theorem dX9_isSigned_103 : decode cX9_isSigned 103 = .ok (.goto 4, 3) := by decide +kernel
theorem dX9_isSigned_106 : decode cX9_isSigned 106 = .ok (.iconst 0, 1) := by decide +kernel
theorem dX9_isSigned_107 : decode cX9_isSigned 107 = .ok (.istore 4, 2) := by decide +kernel
theorem dX9_isSigned_109 : decode cX9_isSigned 109 = .ok (.iinc 5 1, 3) := by decide +kernel
theorem dX9_isSigned_112 : decode cX9_isSigned 112 = .ok (.goto (-44), 3) := by decide +kernel
theorem dX9_isSigned_115 : decode cX9_isSigned 115 = .ok (.iload 4, 2) := by decide +kernel
theorem dX9_isSigned_117 : decode cX9_isSigned 117 = .ok (.ireturn, 1) := by decide +kernel
set_option maxRecDepth 20000 in
theorem ggX9_greatest_X9_placeOf : GoodIn wsX9_greatest wsX9_placeOf := goodIn_r _ [5] (by decide +kernel) (by decide +kernel)
set_option maxRecDepth 20000 in
theorem gX9_greatest_X9_placeOf : GoodIn wsX9_greatest (va_wsS RX9 170 yX9_placeOf wsX9_placeOf) := goodIn_app (goodIn_of _ (by decide +kernel)) ggX9_greatest_X9_placeOf
set_option maxRecDepth 20000 in
theorem ggX9_greatest_X9_isNotAbove : GoodIn wsX9_greatest wsX9_isNotAbove := goodIn_r _ [8, 9, 10, 4, 11] (by decide +kernel) (by decide +kernel)
set_option maxRecDepth 20000 in
theorem gX9_greatest_X9_isNotAbove : GoodIn wsX9_greatest (va_wsS RX9 177 yX9_isNotAbove wsX9_isNotAbove) := goodIn_app (goodIn_of _ (by decide +kernel)) ggX9_greatest_X9_isNotAbove
theorem dX9_greatest_0 : decode cX9_greatest 0 = .ok (.iconst (-1), 1) := by decide +kernel
theorem dX9_greatest_1 : decode cX9_greatest 1 = .ok (.istore_n 2, 1) := by decide +kernel
theorem dX9_greatest_2 : decode cX9_greatest 2 = .ok (.iconst 0, 1) := by decide +kernel
theorem dX9_greatest_3 : decode cX9_greatest 3 = .ok (.istore_n 3, 1) := by decide +kernel
theorem dX9_greatest_4 : decode cX9_greatest 4 = .ok (.iload_n 3, 1) := by decide +kernel
theorem dX9_greatest_5 : decode cX9_greatest 5 = .ok (.iconst 4, 1) := by decide +kernel
theorem dX9_greatest_6 : decode cX9_greatest 6 = .ok (.if_icmp .ge 76, 3) := by decide +kernel
theorem dX9_greatest_9 : decode cX9_greatest 9 = .ok (.iload_n 2, 1) := by decide +kernel
theorem dX9_greatest_10 : decode cX9_greatest 10 = .ok (.iconst (-1), 1) := by decide +kernel
theorem dX9_greatest_11 : decode cX9_greatest 11 = .ok (.if_icmp .ne 71, 3) := by decide +kernel
theorem dX9_greatest_14 : decode cX9_greatest 14 = .ok (.iconst 1, 1) := by decide +kernel
theorem dX9_greatest_15 : decode cX9_greatest 15 = .ok (.istore 4, 2) := by decide +kernel
theorem dX9_greatest_17 : decode cX9_greatest 17 = .ok (.iconst 0, 1) := by decide +kernel
theorem dX9_greatest_18 : decode cX9_greatest 18 = .ok (.istore 5, 2) := by decide +kernel
theorem dX9_greatest_20 : decode cX9_greatest 20 = .ok (.iload 5, 2) := by decide +kernel
theorem dX9_greatest_22 : decode cX9_greatest 22 = .ok (.iconst 4, 1) := by decide +kernel
theorem dX9_greatest_23 : decode cX9_greatest 23 = .ok (.if_icmp .ge 42, 3) := by decide +kernel
theorem dX9_greatest_26 : decode cX9_greatest 26 = .ok (.iload 4, 2) := by decide +kernel
theorem dX9_greatest_28 : decode cX9_greatest 28 = .ok (.ifCond .eq 28, 3) := by decide +kernel
theorem dX9_greatest_31 : decode cX9_greatest 31 = .ok (.aload_n 0, 1) := by decide +kernel
theorem dX9_greatest_32 : decode cX9_greatest 32 = .ok (.getfield 88, 3) := by decide +kernel
theorem dX9_greatest_35 : decode cX9_greatest 35 = .ok (.iload_n 1, 1) := by decide +kernel
theorem dX9_greatest_36 : decode cX9_greatest 36 = .ok (.iload 5, 2) := by decide +kernel
theorem dX9_greatest_38 : decode cX9_greatest 38 = .ok (.invokestatic 170, 3) := by decide +kernel
theorem dX9_greatest_41 : decode cX9_greatest 41 = .ok (.iload_n 1, 1) := by decide +kernel
theorem dX9_greatest_42 : decode cX9_greatest 42 = .ok (.iload_n 3, 1) := by decide +kernel
theorem dX9_greatest_43 : decode cX9_greatest 43 = .ok (.invokestatic 170, 3) := by decide +kernel
theorem dX9_greatest_46 : decode cX9_greatest 46 = .ok (.invokestatic 177, 3) := by decide +kernel
theorem dX9_greatest_49 : decode cX9_greatest 49 = .ok (.ifCond .eq 7, 3) := by decide +kernel
theorem dX9_greatest_52 : decode cX9_greatest 52 = .ok (.iconst 1, 1) := by decide +kernel
theorem dX9_greatest_53 : decode cX9_greatest 53 = .ok (.goto 4, 3) := by decide +kernel
theorem dX9_greatest_56 : decode cX9_greatest 56 = .ok (.iconst 0, 1) := by decide +kernel
theorem dX9_greatest_57 : decode cX9_greatest 57 = .ok (.istore 4, 2) := by decide +kernel
theorem dX9_greatest_59 : decode cX9_greatest 59 = .ok (.iinc 5 1, 3) := by decide +kernel
theorem dX9_greatest_62 : decode cX9_greatest 62 = .ok (.goto (-42), 3) := by decide +kernel
theorem dX9_greatest_65 : decode cX9_greatest 65 = .ok (.iload 4, 2) := by decide +kernel
theorem dX9_greatest_67 : decode cX9_greatest 67 = .ok (.ifCond .eq 7, 3) := by decide +kernel
theorem dX9_greatest_70 : decode cX9_greatest 70 = .ok (.iload_n 3, 1) := by decide +kernel
theorem dX9_greatest_71 : decode cX9_greatest 71 = .ok (.goto 4, 3) := by decide +kernel
theorem dX9_greatest_74 : decode cX9_greatest 74 = .ok (.iload_n 2, 1) := by decide +kernel
theorem dX9_greatest_75 : decode cX9_greatest 75 = .ok (.istore_n 2, 1) := by decide +kernel
theorem dX9_greatest_76 : decode cX9_greatest 76 = .ok (.iinc 3 1, 3) := by decide +kernel
theorem dX9_greatest_79 : decode cX9_greatest 79 = .ok (.goto (-75), 3) := by decide +kernel
theorem dX9_greatest_82 : decode cX9_greatest 82 = .ok (.iload_n 2, 1) := by decide +kernel
theorem dX9_greatest_83 : decode cX9_greatest 83 = .ok (.ireturn, 1) := by decide +kernel
set_option maxRecDepth 20000 in
theorem ggX9_check_X9_isSigned : GoodIn wsX9_check wsX9_isSigned := goodIn_r _ [9, 10, 11, 2, 12, 13, 14, 8, 15, 16, 17, 18, 19, 20, 21, 22, 23, 24, 25, 26, 27, 28, 29, 30, 31, 32, 33, 34, 35, 36, 37, 38, 39, 40, 41, 42, 43, 44, 45, 62, 63, 64, 65, 66, 67, 68, 69, 70, 71, 72, 73, 74, 75, 76, 77, 78, 79, 80, 81, 82, 83, 84] (by decide +kernel) (by decide +kernel)
set_option maxRecDepth 20000 in
theorem gX9_check_X9_isSigned : GoodIn wsX9_check (wsV RX9 181 RX9 yX9_isSigned wsX9_isSigned) := goodIn_app (goodIn_of _ (by decide +kernel)) ggX9_check_X9_isSigned
set_option maxRecDepth 20000 in
theorem ggX9_check_X9_placeOf : GoodIn wsX9_check wsX9_placeOf := goodIn_r _ [15] (by decide +kernel) (by decide +kernel)
set_option maxRecDepth 20000 in
theorem gX9_check_X9_placeOf : GoodIn wsX9_check (va_wsS RX9 170 yX9_placeOf wsX9_placeOf) := goodIn_app (goodIn_of _ (by decide +kernel)) ggX9_check_X9_placeOf
set_option maxRecDepth 20000 in
theorem ggX9_check_X9_isNotAbove : GoodIn wsX9_check wsX9_isNotAbove := goodIn_r _ [48, 49, 50, 8, 51] (by decide +kernel) (by decide +kernel)
set_option maxRecDepth 20000 in
theorem gX9_check_X9_isNotAbove : GoodIn wsX9_check (va_wsS RX9 177 yX9_isNotAbove wsX9_isNotAbove) := goodIn_app (goodIn_of _ (by decide +kernel)) ggX9_check_X9_isNotAbove
set_option maxRecDepth 20000 in
theorem ggX9_check_X9_findRoot : GoodIn wsX9_check wsX9_findRoot := goodIn_r _ [55, 20, 56, 57, 4, 12, 26, 27, 28, 8, 29, 30, 31, 32, 33, 34, 35, 36, 37, 38, 39, 40, 41, 42, 43, 44, 45, 62, 63, 64, 65, 66, 67, 68, 69, 70, 71, 72, 73, 74, 75, 76, 77, 78, 79, 80, 81, 82, 83, 84] (by decide +kernel) (by decide +kernel)
set_option maxRecDepth 20000 in
theorem gX9_check_X9_findRoot : GoodIn wsX9_check (wsV RX9 134 RX9 yX9_findRoot wsX9_findRoot) := goodIn_app (goodIn_of _ (by decide +kernel)) ggX9_check_X9_findRoot
set_option maxRecDepth 20000 in
theorem ggX9_check_X9_greatest : GoodIn wsX9_check wsX9_greatest := goodIn_r _ [61, 2, 13, 14, 8, 15, 46, 47, 48, 49, 50, 51, 62, 63, 64, 65, 66, 67, 68, 69, 70, 71, 72, 73, 74, 75, 76, 77, 78, 79, 80, 81, 82, 83, 84] (by decide +kernel) (by decide +kernel)
set_option maxRecDepth 20000 in
theorem gX9_check_X9_greatest : GoodIn wsX9_check (wsV RX9 185 RX9 yX9_greatest wsX9_greatest) := goodIn_app (goodIn_of _ (by decide +kernel)) ggX9_check_X9_greatest
theorem dX9_check_0 : decode cX9_check 0 = .ok (.aload_n 0, 1) := by decide +kernel
theorem dX9_check_1 : decode cX9_check 1 = .ok (.getfield 104, 3) := by decide +kernel
theorem dX9_check_4 : decode cX9_check 4 = .ok (.iload_n 1, 1) := by decide +kernel
theorem dX9_check_5 : decode cX9_check 5 = .ok (.iaload, 1) := by decide +kernel
theorem dX9_check_6 : decode cX9_check 6 = .ok (.istore_n 2, 1) := by decide +kernel
theorem dX9_check_7 : decode cX9_check 7 = .ok (.iconst 0, 1) := by decide +kernel
theorem dX9_check_8 : decode cX9_check 8 = .ok (.istore_n 3, 1) := by decide +kernel
theorem dX9_check_9 : decode cX9_check 9 = .ok (.iload_n 3, 1) := by decide +kernel
theorem dX9_check_10 : decode cX9_check 10 = .ok (.iconst 4, 1) := by decide +kernel
theorem dX9_check_11 : decode cX9_check 11 = .ok (.if_icmp .ge 20, 3) := by decide +kernel
theorem dX9_check_14 : decode cX9_check 14 = .ok (.aload_n 0, 1) := by decide +kernel
theorem dX9_check_15 : decode cX9_check 15 = .ok (.iload_n 2, 1) := by decide +kernel
theorem dX9_check_16 : decode cX9_check 16 = .ok (.iload_n 3, 1) := by decide +kernel
theorem dX9_check_17 : decode cX9_check 17 = .ok (.invokevirtual 181, 3) := by decide +kernel
theorem dX9_check_20 : decode cX9_check 20 = .ok (.ifCond .ne 5, 3) := by decide +kernel
theorem dX9_check_23 : decode cX9_check 23 = .ok (.iconst 1, 1) := by decide +kernel
theorem dX9_check_24 : decode cX9_check 24 = .ok (.ireturn, 1) := by decide +kernel
theorem dX9_check_25 : decode cX9_check 25 = .ok (.iinc 3 1, 3) := by decide +kernel
theorem dX9_check_28 : decode cX9_check 28 = .ok (.goto (-19), 3) := by decide +kernel
theorem dX9_check_31 : decode cX9_check 31 = .ok (.iconst 0, 1) := by decide +kernel
theorem dX9_check_32 : decode cX9_check 32 = .ok (.istore_n 3, 1) := by decide +kernel
theorem dX9_check_33 : decode cX9_check 33 = .ok (.iload_n 3, 1) := by decide +kernel
theorem dX9_check_34 : decode cX9_check 34 = .ok (.bipush 84, 2) := by decide +kernel
theorem dX9_check_36 : decode cX9_check 36 = .ok (.if_icmp .ge 37, 3) := by decide +kernel
theorem dX9_check_39 : decode cX9_check 39 = .ok (.aload_n 0, 1) := by decide +kernel
theorem dX9_check_40 : decode cX9_check 40 = .ok (.getfield 88, 3) := by decide +kernel
theorem dX9_check_43 : decode cX9_check 43 = .ok (.iload_n 2, 1) := by decide +kernel
theorem dX9_check_44 : decode cX9_check 44 = .ok (.iload_n 1, 1) := by decide +kernel
theorem dX9_check_45 : decode cX9_check 45 = .ok (.invokestatic 170, 3) := by decide +kernel
theorem dX9_check_48 : decode cX9_check 48 = .ok (.iload_n 3, 1) := by decide +kernel
theorem dX9_check_49 : decode cX9_check 49 = .ok (.iadd, 1) := by decide +kernel
theorem dX9_check_50 : decode cX9_check 50 = .ok (.iaload, 1) := by decide +kernel
theorem dX9_check_51 : decode cX9_check 51 = .ok (.aload_n 0, 1) := by decide +kernel
theorem dX9_check_52 : decode cX9_check 52 = .ok (.getfield 91, 3) := by decide +kernel
theorem dX9_check_55 : decode cX9_check 55 = .ok (.bipush 84, 2) := by decide +kernel
theorem dX9_check_57 : decode cX9_check 57 = .ok (.iload_n 1, 1) := by decide +kernel
theorem dX9_check_58 : decode cX9_check 58 = .ok (.imul, 1) := by decide +kernel
theorem dX9_check_59 : decode cX9_check 59 = .ok (.iload_n 3, 1) := by decide +kernel
theorem dX9_check_60 : decode cX9_check 60 = .ok (.iadd, 1) := by decide +kernel
theorem dX9_check_61 : decode cX9_check 61 = .ok (.iaload, 1) := by decide +kernel
theorem dX9_check_62 : decode cX9_check 62 = .ok (.if_icmp .eq 5, 3) := by decide +kernel
theorem dX9_check_65 : decode cX9_check 65 = .ok (.iconst 2, 1) := by decide +kernel
theorem dX9_check_66 : decode cX9_check 66 = .ok (.ireturn, 1) := by decide +kernel
theorem dX9_check_67 : decode cX9_check 67 = .ok (.iinc 3 1, 3) := by decide +kernel
theorem dX9_check_70 : decode cX9_check 70 = .ok (.goto (-37), 3) := by decide +kernel
theorem dX9_check_73 : decode cX9_check 73 = .ok (.iconst 0, 1) := by decide +kernel
theorem dX9_check_74 : decode cX9_check 74 = .ok (.istore_n 3, 1) := by decide +kernel
theorem dX9_check_75 : decode cX9_check 75 = .ok (.iload_n 3, 1) := by decide +kernel
theorem dX9_check_76 : decode cX9_check 76 = .ok (.iconst 4, 1) := by decide +kernel
theorem dX9_check_77 : decode cX9_check 77 = .ok (.if_icmp .ge 69, 3) := by decide +kernel
theorem dX9_check_80 : decode cX9_check 80 = .ok (.iconst 0, 1) := by decide +kernel
theorem dX9_check_81 : decode cX9_check 81 = .ok (.istore 4, 2) := by decide +kernel
theorem dX9_check_83 : decode cX9_check 83 = .ok (.iload 4, 2) := by decide +kernel
theorem dX9_check_85 : decode cX9_check 85 = .ok (.iload_n 3, 1) := by decide +kernel
theorem dX9_check_86 : decode cX9_check 86 = .ok (.if_icmp .ge 54, 3) := by decide +kernel
theorem dX9_check_89 : decode cX9_check 89 = .ok (.iload_n 2, 1) := by decide +kernel
theorem dX9_check_90 : decode cX9_check 90 = .ok (.iload_n 3, 1) := by decide +kernel
theorem dX9_check_91 : decode cX9_check 91 = .ok (.invokestatic 170, 3) := by decide +kernel
theorem dX9_check_94 : decode cX9_check 94 = .ok (.istore 5, 2) := by decide +kernel
theorem dX9_check_96 : decode cX9_check 96 = .ok (.iload_n 2, 1) := by decide +kernel
theorem dX9_check_97 : decode cX9_check 97 = .ok (.iload 4, 2) := by decide +kernel
theorem dX9_check_99 : decode cX9_check 99 = .ok (.invokestatic 170, 3) := by decide +kernel
theorem dX9_check_102 : decode cX9_check 102 = .ok (.istore 6, 2) := by decide +kernel
theorem dX9_check_104 : decode cX9_check 104 = .ok (.aload_n 0, 1) := by decide +kernel
theorem dX9_check_105 : decode cX9_check 105 = .ok (.getfield 88, 3) := by decide +kernel
theorem dX9_check_108 : decode cX9_check 108 = .ok (.iload 5, 2) := by decide +kernel
theorem dX9_check_110 : decode cX9_check 110 = .ok (.iload 6, 2) := by decide +kernel
theorem dX9_check_112 : decode cX9_check 112 = .ok (.invokestatic 177, 3) := by decide +kernel
theorem dX9_check_115 : decode cX9_check 115 = .ok (.ifCond .ne 19, 3) := by decide +kernel
theorem dX9_check_118 : decode cX9_check 118 = .ok (.aload_n 0, 1) := by decide +kernel
theorem dX9_check_119 : decode cX9_check 119 = .ok (.getfield 88, 3) := by decide +kernel
theorem dX9_check_122 : decode cX9_check 122 = .ok (.iload 6, 2) := by decide +kernel
theorem dX9_check_124 : decode cX9_check 124 = .ok (.iload 5, 2) := by decide +kernel
theorem dX9_check_126 : decode cX9_check 126 = .ok (.invokestatic 177, 3) := by decide +kernel
theorem dX9_check_129 : decode cX9_check 129 = .ok (.ifCond .ne 5, 3) := by decide +kernel
theorem dX9_check_132 : decode cX9_check 132 = .ok (.iconst 3, 1) := by decide +kernel
theorem dX9_check_133 : decode cX9_check 133 = .ok (.ireturn, 1) := by decide +kernel
theorem dX9_check_134 : decode cX9_check 134 = .ok (.iinc 4 1, 3) := by decide +kernel
theorem dX9_check_137 : decode cX9_check 137 = .ok (.goto (-54), 3) := by decide +kernel
theorem dX9_check_140 : decode cX9_check 140 = .ok (.iinc 3 1, 3) := by decide +kernel
theorem dX9_check_143 : decode cX9_check 143 = .ok (.goto (-68), 3) := by decide +kernel
theorem dX9_check_146 : decode cX9_check 146 = .ok (.aload_n 0, 1) := by decide +kernel
theorem dX9_check_147 : decode cX9_check 147 = .ok (.iload_n 2, 1) := by decide +kernel
theorem dX9_check_148 : decode cX9_check 148 = .ok (.invokevirtual 134, 3) := by decide +kernel
theorem dX9_check_151 : decode cX9_check 151 = .ok (.iload_n 2, 1) := by decide +kernel
theorem dX9_check_152 : decode cX9_check 152 = .ok (.aload_n 0, 1) := by decide +kernel
theorem dX9_check_153 : decode cX9_check 153 = .ok (.iload_n 2, 1) := by decide +kernel
theorem dX9_check_154 : decode cX9_check 154 = .ok (.invokevirtual 185, 3) := by decide +kernel
theorem dX9_check_157 : decode cX9_check 157 = .ok (.invokestatic 170, 3) := by decide +kernel
theorem dX9_check_160 : decode cX9_check 160 = .ok (.bipush 20, 2) := by decide +kernel
theorem dX9_check_162 : decode cX9_check 162 = .ok (.iadd, 1) := by decide +kernel
theorem dX9_check_163 : decode cX9_check 163 = .ok (.istore_n 3, 1) := by decide +kernel
theorem dX9_check_164 : decode cX9_check 164 = .ok (.iconst 0, 1) := by decide +kernel
theorem dX9_check_165 : decode cX9_check 165 = .ok (.istore 4, 2) := by decide +kernel
theorem dX9_check_167 : decode cX9_check 167 = .ok (.iload 4, 2) := by decide +kernel
theorem dX9_check_169 : decode cX9_check 169 = .ok (.bipush 32, 2) := by decide +kernel
theorem dX9_check_171 : decode cX9_check 171 = .ok (.if_icmp .ge 30, 3) := by decide +kernel
theorem dX9_check_174 : decode cX9_check 174 = .ok (.aload_n 0, 1) := by decide +kernel
theorem dX9_check_175 : decode cX9_check 175 = .ok (.getfield 88, 3) := by decide +kernel
theorem dX9_check_178 : decode cX9_check 178 = .ok (.iload_n 3, 1) := by decide +kernel
theorem dX9_check_179 : decode cX9_check 179 = .ok (.iload 4, 2) := by decide +kernel
theorem dX9_check_181 : decode cX9_check 181 = .ok (.iadd, 1) := by decide +kernel
theorem dX9_check_182 : decode cX9_check 182 = .ok (.iaload, 1) := by decide +kernel
theorem dX9_check_183 : decode cX9_check 183 = .ok (.aload_n 0, 1) := by decide +kernel
theorem dX9_check_184 : decode cX9_check 184 = .ok (.getfield 128, 3) := by decide +kernel
theorem dX9_check_187 : decode cX9_check 187 = .ok (.iload 4, 2) := by decide +kernel
theorem dX9_check_189 : decode cX9_check 189 = .ok (.iaload, 1) := by decide +kernel
theorem dX9_check_190 : decode cX9_check 190 = .ok (.if_icmp .eq 5, 3) := by decide +kernel
theorem dX9_check_193 : decode cX9_check 193 = .ok (.iconst 4, 1) := by decide +kernel
theorem dX9_check_194 : decode cX9_check 194 = .ok (.ireturn, 1) := by decide +kernel
theorem dX9_check_195 : decode cX9_check 195 = .ok (.iinc 4 1, 3) := by decide +kernel
theorem dX9_check_198 : decode cX9_check 198 = .ok (.goto (-31), 3) := by decide +kernel
theorem dX9_check_201 : decode cX9_check 201 = .ok (.iconst 0, 1) := by decide +kernel
theorem dX9_check_202 : decode cX9_check 202 = .ok (.ireturn, 1) := by decide +kernel
set_option maxRecDepth 20000 in
theorem ggX9_advance_X9_greatest : GoodIn wsX9_advance wsX9_greatest := goodIn_r _ [9, 3, 10, 11, 8, 12, 13, 14, 15, 16, 17, 18, 67, 68, 69, 70, 71, 72, 73, 74, 75, 76, 77, 78, 79, 80, 81, 82, 83, 84, 85, 86, 87, 88, 89] (by decide +kernel) (by decide +kernel)
set_option maxRecDepth 20000 in
theorem gX9_advance_X9_greatest : GoodIn wsX9_advance (wsV RX9 185 RX9 yX9_greatest wsX9_greatest) := goodIn_app (goodIn_of _ (by decide +kernel)) ggX9_advance_X9_greatest
set_option maxRecDepth 20000 in
theorem ggX9_advance_X9_placeOf : GoodIn wsX9_advance wsX9_placeOf := goodIn_r _ [12] (by decide +kernel) (by decide +kernel)
set_option maxRecDepth 20000 in
theorem gX9_advance_X9_placeOf : GoodIn wsX9_advance (va_wsS RX9 170 yX9_placeOf wsX9_placeOf) := goodIn_app (goodIn_of _ (by decide +kernel)) ggX9_advance_X9_placeOf
set_option maxRecDepth 20000 in
theorem ggX9_advance_X9_findRoot : GoodIn wsX9_advance wsX9_findRoot := goodIn_r _ [22, 23, 24, 25, 26, 27, 28, 29, 30, 8, 31, 32, 33, 34, 35, 36, 37, 38, 39, 40, 41, 42, 43, 44, 45, 46, 47, 67, 68, 69, 70, 71, 72, 73, 74, 75, 76, 77, 78, 79, 80, 81, 82, 83, 84, 85, 86, 87, 88, 89] (by decide +kernel) (by decide +kernel)
set_option maxRecDepth 20000 in
theorem gX9_advance_X9_findRoot : GoodIn wsX9_advance (wsV RX9 134 RX9 yX9_findRoot wsX9_findRoot) := goodIn_app (goodIn_of _ (by decide +kernel)) ggX9_advance_X9_findRoot
set_option maxRecDepth 20000 in
theorem ggX9_advance_X9_sign : GoodIn wsX9_advance wsX9_sign := goodIn_r _ [51, 2, 26, 52, 53, 27, 54, 55, 56, 8, 57, 23, 58, 59, 60, 61, 62, 28, 29, 30, 31, 32, 33, 34, 35, 36, 37, 38, 39, 40, 41, 42, 43, 44, 45, 46, 47, 67, 68, 69, 70, 71, 72, 73, 74, 75, 76, 77, 78, 79, 80, 81, 82, 83, 84, 85, 86, 87, 88, 89] (by decide +kernel) (by decide +kernel)
set_option maxRecDepth 20000 in
theorem gX9_advance_X9_sign : GoodIn wsX9_advance (wsV RX9 138 RX9 yX9_sign wsX9_sign) := goodIn_app (goodIn_of _ (by decide +kernel)) ggX9_advance_X9_sign
set_option maxRecDepth 20000 in
theorem ggX9_advance_X9_tell : GoodIn wsX9_advance wsX9_tell := goodIn_r _ [66, 3, 2, 10, 11, 8, 12, 67, 68, 69, 70, 71, 72, 73, 74, 75, 76, 77, 78, 79, 80, 81, 82, 83, 84, 85, 86, 87, 88, 89] (by decide +kernel) (by decide +kernel)
set_option maxRecDepth 20000 in
theorem gX9_advance_X9_tell : GoodIn wsX9_advance (wsV RX9 141 RX9 yX9_tell wsX9_tell) := goodIn_app (goodIn_of _ (by decide +kernel)) ggX9_advance_X9_tell
theorem dX9_advance_0 : decode cX9_advance 0 = .ok (.aload_n 0, 1) := by decide +kernel
theorem dX9_advance_1 : decode cX9_advance 1 = .ok (.getfield 104, 3) := by decide +kernel
theorem dX9_advance_4 : decode cX9_advance 4 = .ok (.iload_n 1, 1) := by decide +kernel
theorem dX9_advance_5 : decode cX9_advance 5 = .ok (.iaload, 1) := by decide +kernel
theorem dX9_advance_6 : decode cX9_advance 6 = .ok (.istore_n 2, 1) := by decide +kernel
theorem dX9_advance_7 : decode cX9_advance 7 = .ok (.iload_n 2, 1) := by decide +kernel
theorem dX9_advance_8 : decode cX9_advance 8 = .ok (.aload_n 0, 1) := by decide +kernel
theorem dX9_advance_9 : decode cX9_advance 9 = .ok (.iload_n 2, 1) := by decide +kernel
theorem dX9_advance_10 : decode cX9_advance 10 = .ok (.invokevirtual 185, 3) := by decide +kernel
theorem dX9_advance_13 : decode cX9_advance 13 = .ok (.invokestatic 170, 3) := by decide +kernel
theorem dX9_advance_16 : decode cX9_advance 16 = .ok (.istore_n 3, 1) := by decide +kernel
theorem dX9_advance_17 : decode cX9_advance 17 = .ok (.iconst 4, 1) := by decide +kernel
theorem dX9_advance_18 : decode cX9_advance 18 = .ok (.istore 4, 2) := by decide +kernel
theorem dX9_advance_20 : decode cX9_advance 20 = .ok (.iload 4, 2) := by decide +kernel
theorem dX9_advance_22 : decode cX9_advance 22 = .ok (.bipush 20, 2) := by decide +kernel
theorem dX9_advance_24 : decode cX9_advance 24 = .ok (.if_icmp .ge 30, 3) := by decide +kernel
theorem dX9_advance_27 : decode cX9_advance 27 = .ok (.aload_n 0, 1) := by decide +kernel
theorem dX9_advance_28 : decode cX9_advance 28 = .ok (.getfield 91, 3) := by decide +kernel
theorem dX9_advance_31 : decode cX9_advance 31 = .ok (.bipush 84, 2) := by decide +kernel
theorem dX9_advance_33 : decode cX9_advance 33 = .ok (.iload_n 1, 1) := by decide +kernel
theorem dX9_advance_34 : decode cX9_advance 34 = .ok (.imul, 1) := by decide +kernel
theorem dX9_advance_35 : decode cX9_advance 35 = .ok (.iload 4, 2) := by decide +kernel
theorem dX9_advance_37 : decode cX9_advance 37 = .ok (.iadd, 1) := by decide +kernel
theorem dX9_advance_38 : decode cX9_advance 38 = .ok (.aload_n 0, 1) := by decide +kernel
theorem dX9_advance_39 : decode cX9_advance 39 = .ok (.getfield 88, 3) := by decide +kernel
theorem dX9_advance_42 : decode cX9_advance 42 = .ok (.iload_n 3, 1) := by decide +kernel
theorem dX9_advance_43 : decode cX9_advance 43 = .ok (.iload 4, 2) := by decide +kernel
theorem dX9_advance_45 : decode cX9_advance 45 = .ok (.iadd, 1) := by decide +kernel
theorem dX9_advance_46 : decode cX9_advance 46 = .ok (.iaload, 1) := by decide +kernel
theorem dX9_advance_47 : decode cX9_advance 47 = .ok (.iastore, 1) := by decide +kernel
theorem dX9_advance_48 : decode cX9_advance 48 = .ok (.iinc 4 1, 3) := by decide +kernel
theorem dX9_advance_51 : decode cX9_advance 51 = .ok (.goto (-31), 3) := by decide +kernel
theorem dX9_advance_54 : decode cX9_advance 54 = .ok (.bipush 84, 2) := by decide +kernel
theorem dX9_advance_56 : decode cX9_advance 56 = .ok (.iload_n 1, 1) := by decide +kernel
theorem dX9_advance_57 : decode cX9_advance 57 = .ok (.imul, 1) := by decide +kernel
theorem dX9_advance_58 : decode cX9_advance 58 = .ok (.iconst 4, 1) := by decide +kernel
theorem dX9_advance_59 : decode cX9_advance 59 = .ok (.iadd, 1) := by decide +kernel
theorem dX9_advance_60 : decode cX9_advance 60 = .ok (.iconst 4, 1) := by decide +kernel
theorem dX9_advance_61 : decode cX9_advance 61 = .ok (.iload_n 1, 1) := by decide +kernel
theorem dX9_advance_62 : decode cX9_advance 62 = .ok (.imul, 1) := by decide +kernel
theorem dX9_advance_63 : decode cX9_advance 63 = .ok (.iadd, 1) := by decide +kernel
theorem dX9_advance_64 : decode cX9_advance 64 = .ok (.istore 4, 2) := by decide +kernel
theorem dX9_advance_66 : decode cX9_advance 66 = .ok (.aload_n 0, 1) := by decide +kernel
theorem dX9_advance_67 : decode cX9_advance 67 = .ok (.getfield 91, 3) := by decide +kernel
theorem dX9_advance_70 : decode cX9_advance 70 = .ok (.iload 4, 2) := by decide +kernel
theorem dX9_advance_72 : decode cX9_advance 72 = .ok (.iaload, 1) := by decide +kernel
theorem dX9_advance_73 : decode cX9_advance 73 = .ok (.bipush 24, 2) := by decide +kernel
theorem dX9_advance_75 : decode cX9_advance 75 = .ok (.ishl, 1) := by decide +kernel
theorem dX9_advance_76 : decode cX9_advance 76 = .ok (.aload_n 0, 1) := by decide +kernel
theorem dX9_advance_77 : decode cX9_advance 77 = .ok (.getfield 91, 3) := by decide +kernel
theorem dX9_advance_80 : decode cX9_advance 80 = .ok (.iload 4, 2) := by decide +kernel
theorem dX9_advance_82 : decode cX9_advance 82 = .ok (.iconst 1, 1) := by decide +kernel
theorem dX9_advance_83 : decode cX9_advance 83 = .ok (.iadd, 1) := by decide +kernel
theorem dX9_advance_84 : decode cX9_advance 84 = .ok (.iaload, 1) := by decide +kernel
theorem dX9_advance_85 : decode cX9_advance 85 = .ok (.bipush 16, 2) := by decide +kernel
theorem dX9_advance_87 : decode cX9_advance 87 = .ok (.ishl, 1) := by decide +kernel
theorem dX9_advance_88 : decode cX9_advance 88 = .ok (.ior, 1) := by decide +kernel
theorem dX9_advance_89 : decode cX9_advance 89 = .ok (.aload_n 0, 1) := by decide +kernel
theorem dX9_advance_90 : decode cX9_advance 90 = .ok (.getfield 91, 3) := by decide +kernel
theorem dX9_advance_93 : decode cX9_advance 93 = .ok (.iload 4, 2) := by decide +kernel
theorem dX9_advance_95 : decode cX9_advance 95 = .ok (.iconst 2, 1) := by decide +kernel
theorem dX9_advance_96 : decode cX9_advance 96 = .ok (.iadd, 1) := by decide +kernel
theorem dX9_advance_97 : decode cX9_advance 97 = .ok (.iaload, 1) := by decide +kernel
theorem dX9_advance_98 : decode cX9_advance 98 = .ok (.bipush 8, 2) := by decide +kernel
theorem dX9_advance_100 : decode cX9_advance 100 = .ok (.ishl, 1) := by decide +kernel
theorem dX9_advance_101 : decode cX9_advance 101 = .ok (.ior, 1) := by decide +kernel
theorem dX9_advance_102 : decode cX9_advance 102 = .ok (.aload_n 0, 1) := by decide +kernel
theorem dX9_advance_103 : decode cX9_advance 103 = .ok (.getfield 91, 3) := by decide +kernel
theorem dX9_advance_106 : decode cX9_advance 106 = .ok (.iload 4, 2) := by decide +kernel
theorem dX9_advance_108 : decode cX9_advance 108 = .ok (.iconst 3, 1) := by decide +kernel
theorem dX9_advance_109 : decode cX9_advance 109 = .ok (.iadd, 1) := by decide +kernel
theorem dX9_advance_110 : decode cX9_advance 110 = .ok (.iaload, 1) := by decide +kernel
theorem dX9_advance_111 : decode cX9_advance 111 = .ok (.ior, 1) := by decide +kernel
theorem dX9_advance_112 : decode cX9_advance 112 = .ok (.istore 5, 2) := by decide +kernel
theorem dX9_advance_114 : decode cX9_advance 114 = .ok (.iload 5, 2) := by decide +kernel
theorem dX9_advance_116 : decode cX9_advance 116 = .ok (.iconst 1, 1) := by decide +kernel
theorem dX9_advance_117 : decode cX9_advance 117 = .ok (.iadd, 1) := by decide +kernel
theorem dX9_advance_118 : decode cX9_advance 118 = .ok (.istore 5, 2) := by decide +kernel
theorem dX9_advance_120 : decode cX9_advance 120 = .ok (.iconst 0, 1) := by decide +kernel
theorem dX9_advance_121 : decode cX9_advance 121 = .ok (.istore 6, 2) := by decide +kernel
theorem dX9_advance_123 : decode cX9_advance 123 = .ok (.iload 6, 2) := by decide +kernel
theorem dX9_advance_125 : decode cX9_advance 125 = .ok (.iconst 4, 1) := by decide +kernel
theorem dX9_advance_126 : decode cX9_advance 126 = .ok (.if_icmp .ge 34, 3) := by decide +kernel
theorem dX9_advance_129 : decode cX9_advance 129 = .ok (.aload_n 0, 1) := by decide +kernel
theorem dX9_advance_130 : decode cX9_advance 130 = .ok (.getfield 91, 3) := by decide +kernel
theorem dX9_advance_133 : decode cX9_advance 133 = .ok (.iload 4, 2) := by decide +kernel
theorem dX9_advance_135 : decode cX9_advance 135 = .ok (.iload 6, 2) := by decide +kernel
theorem dX9_advance_137 : decode cX9_advance 137 = .ok (.iadd, 1) := by decide +kernel
theorem dX9_advance_138 : decode cX9_advance 138 = .ok (.iload 5, 2) := by decide +kernel
theorem dX9_advance_140 : decode cX9_advance 140 = .ok (.bipush 24, 2) := by decide +kernel
theorem dX9_advance_142 : decode cX9_advance 142 = .ok (.bipush 8, 2) := by decide +kernel
theorem dX9_advance_144 : decode cX9_advance 144 = .ok (.iload 6, 2) := by decide +kernel
theorem dX9_advance_146 : decode cX9_advance 146 = .ok (.imul, 1) := by decide +kernel
theorem dX9_advance_147 : decode cX9_advance 147 = .ok (.isub, 1) := by decide +kernel
theorem dX9_advance_148 : decode cX9_advance 148 = .ok (.ishr, 1) := by decide +kernel
theorem dX9_advance_149 : decode cX9_advance 149 = .ok (.sipush 255, 3) := by decide +kernel
theorem dX9_advance_152 : decode cX9_advance 152 = .ok (.iand, 1) := by decide +kernel
theorem dX9_advance_153 : decode cX9_advance 153 = .ok (.iastore, 1) := by decide +kernel
theorem dX9_advance_154 : decode cX9_advance 154 = .ok (.iinc 6 1, 3) := by decide +kernel
theorem dX9_advance_157 : decode cX9_advance 157 = .ok (.goto (-34), 3) := by decide +kernel
theorem dX9_advance_160 : decode cX9_advance 160 = .ok (.aload_n 0, 1) := by decide +kernel
theorem dX9_advance_161 : decode cX9_advance 161 = .ok (.iload_n 2, 1) := by decide +kernel
theorem dX9_advance_162 : decode cX9_advance 162 = .ok (.invokevirtual 134, 3) := by decide +kernel
theorem dX9_advance_165 : decode cX9_advance 165 = .ok (.aload_n 0, 1) := by decide +kernel
theorem dX9_advance_166 : decode cX9_advance 166 = .ok (.iload_n 1, 1) := by decide +kernel
theorem dX9_advance_167 : decode cX9_advance 167 = .ok (.invokevirtual 138, 3) := by decide +kernel
theorem dX9_advance_170 : decode cX9_advance 170 = .ok (.aload_n 0, 1) := by decide +kernel
theorem dX9_advance_171 : decode cX9_advance 171 = .ok (.iload_n 2, 1) := by decide +kernel
theorem dX9_advance_172 : decode cX9_advance 172 = .ok (.iload_n 1, 1) := by decide +kernel
theorem dX9_advance_173 : decode cX9_advance 173 = .ok (.invokevirtual 141, 3) := by decide +kernel
theorem dX9_advance_176 : decode cX9_advance 176 = .ok (.aload_n 0, 1) := by decide +kernel
theorem dX9_advance_177 : decode cX9_advance 177 = .ok (.dup, 1) := by decide +kernel
theorem dX9_advance_178 : decode cX9_advance 178 = .ok (.getfield 189, 3) := by decide +kernel
theorem dX9_advance_181 : decode cX9_advance 181 = .ok (.iconst 1, 1) := by decide +kernel
theorem dX9_advance_182 : decode cX9_advance 182 = .ok (.iadd, 1) := by decide +kernel
theorem dX9_advance_183 : decode cX9_advance 183 = .ok (.putfield 189, 3) := by decide +kernel
theorem dX9_advance_186 : decode cX9_advance 186 = .ok (.return_, 1) := by decide +kernel
theorem dX9_isIn_0 : decode cX9_isIn 0 = .ok (.iload_n 0, 1) := by decide +kernel
theorem dX9_isIn_1 : decode cX9_isIn 1 = .ok (.ifCond .lt 12, 3) := by decide +kernel
theorem dX9_isIn_4 : decode cX9_isIn 4 = .ok (.iload_n 0, 1) := by decide +kernel
theorem dX9_isIn_5 : decode cX9_isIn 5 = .ok (.iload_n 1, 1) := by decide +kernel
theorem dX9_isIn_6 : decode cX9_isIn 6 = .ok (.if_icmp .ge 7, 3) := by decide +kernel
theorem dX9_isIn_9 : decode cX9_isIn 9 = .ok (.iconst 1, 1) := by decide +kernel
theorem dX9_isIn_10 : decode cX9_isIn 10 = .ok (.goto 4, 3) := by decide +kernel
theorem dX9_isIn_13 : decode cX9_isIn 13 = .ok (.iconst 0, 1) := by decide +kernel
theorem dX9_isIn_14 : decode cX9_isIn 14 = .ok (.ireturn, 1) := by decide +kernel
theorem dX9_feed_0 : decode cX9_feed 0 = .ok (.iload_n 1, 1) := by decide +kernel
theorem dX9_feed_1 : decode cX9_feed 1 = .ok (.ifCond .lt 19, 3) := by decide +kernel
theorem dX9_feed_4 : decode cX9_feed 4 = .ok (.iload_n 1, 1) := by decide +kernel
theorem dX9_feed_5 : decode cX9_feed 5 = .ok (.sipush 255, 3) := by decide +kernel
theorem dX9_feed_8 : decode cX9_feed 8 = .ok (.if_icmp .gt 12, 3) := by decide +kernel
theorem dX9_feed_11 : decode cX9_feed 11 = .ok (.aload_n 0, 1) := by decide +kernel
theorem dX9_feed_12 : decode cX9_feed 12 = .ok (.getfield 192, 3) := by decide +kernel
theorem dX9_feed_15 : decode cX9_feed 15 = .ok (.bipush 64, 2) := by decide +kernel
theorem dX9_feed_17 : decode cX9_feed 17 = .ok (.if_icmp .ne 5, 3) := by decide +kernel
theorem dX9_feed_20 : decode cX9_feed 20 = .ok (.iconst 0, 1) := by decide +kernel
theorem dX9_feed_21 : decode cX9_feed 21 = .ok (.ireturn, 1) := by decide +kernel
theorem dX9_feed_22 : decode cX9_feed 22 = .ok (.aload_n 0, 1) := by decide +kernel
theorem dX9_feed_23 : decode cX9_feed 23 = .ok (.getfield 107, 3) := by decide +kernel
theorem dX9_feed_26 : decode cX9_feed 26 = .ok (.aload_n 0, 1) := by decide +kernel
theorem dX9_feed_27 : decode cX9_feed 27 = .ok (.getfield 192, 3) := by decide +kernel
theorem dX9_feed_30 : decode cX9_feed 30 = .ok (.iload_n 1, 1) := by decide +kernel
theorem dX9_feed_31 : decode cX9_feed 31 = .ok (.iastore, 1) := by decide +kernel
theorem dX9_feed_32 : decode cX9_feed 32 = .ok (.aload_n 0, 1) := by decide +kernel
theorem dX9_feed_33 : decode cX9_feed 33 = .ok (.dup, 1) := by decide +kernel
theorem dX9_feed_34 : decode cX9_feed 34 = .ok (.getfield 192, 3) := by decide +kernel
theorem dX9_feed_37 : decode cX9_feed 37 = .ok (.iconst 1, 1) := by decide +kernel
theorem dX9_feed_38 : decode cX9_feed 38 = .ok (.iadd, 1) := by decide +kernel
theorem dX9_feed_39 : decode cX9_feed 39 = .ok (.putfield 192, 3) := by decide +kernel
theorem dX9_feed_42 : decode cX9_feed 42 = .ok (.iconst 1, 1) := by decide +kernel
theorem dX9_feed_43 : decode cX9_feed 43 = .ok (.ireturn, 1) := by decide +kernel
set_option maxRecDepth 20000 in
theorem ggX9_write_X9_isIn : GoodIn wsX9_write wsX9_isIn := goodIn_r _ [10] (by decide +kernel) (by decide +kernel)
set_option maxRecDepth 20000 in
theorem gX9_write_X9_isIn : GoodIn wsX9_write (va_wsS RX9 195 yX9_isIn wsX9_isIn) := goodIn_app (goodIn_of _ (by decide +kernel)) ggX9_write_X9_isIn
set_option maxRecDepth 20000 in
theorem ggX9_write_X9_check : GoodIn wsX9_write wsX9_check := goodIn_r _ [14, 3, 15, 16, 17, 18, 19, 20, 9, 21, 22, 23, 24, 25, 26, 27, 28, 29, 30, 31, 32, 33, 34, 35, 36, 37, 38, 39, 40, 41, 42, 43, 44, 45, 46, 47, 48, 49, 50, 51, 52, 53, 54, 55, 56, 57, 58, 59, 60, 61, 62, 63, 64, 65, 66, 67, 4, 5, 68, 69, 70, 71, 85, 86, 87, 88, 89, 90, 91, 92, 93, 94, 95, 96, 97, 98, 99, 100, 101, 102, 103, 104, 105, 106, 107] (by decide +kernel) (by decide +kernel)
set_option maxRecDepth 20000 in
theorem gX9_write_X9_check : GoodIn wsX9_write (wsV RX9 198 RX9 yX9_check wsX9_check) := goodIn_app (goodIn_of _ (by decide +kernel)) ggX9_write_X9_check
set_option maxRecDepth 20000 in
theorem ggX9_write_X9_advance : GoodIn wsX9_write wsX9_advance := goodIn_r _ [75, 3, 16, 15, 76, 68, 69, 70, 9, 71, 25, 26, 27, 58, 59, 60, 61, 62, 63, 64, 65, 66, 67, 32, 4, 5, 17, 24, 38, 39, 40, 41, 42, 43, 44, 45, 46, 47, 48, 49, 50, 51, 52, 53, 54, 55, 56, 57, 77, 78, 79, 80, 22, 23, 28, 29, 30, 31, 33, 34, 35, 36, 37, 81, 82, 83, 84, 85, 86, 87, 88, 89, 90, 91, 92, 93, 94, 95, 96, 97, 98, 99, 100, 101, 102, 103, 104, 105, 106, 107] (by decide +kernel) (by decide +kernel)
set_option maxRecDepth 20000 in
theorem gX9_write_X9_advance : GoodIn wsX9_write (wsV RX9 204 RX9 yX9_advance wsX9_advance) := goodIn_app (goodIn_of _ (by decide +kernel)) ggX9_write_X9_advance
theorem dX9_write_0 : decode cX9_write 0 = .ok (.iload_n 1, 1) := by decide +kernel
theorem dX9_write_1 : decode cX9_write 1 = .ok (.iconst 4, 1) := by decide +kernel
theorem dX9_write_2 : decode cX9_write 2 = .ok (.invokestatic 195, 3) := by decide +kernel
theorem dX9_write_5 : decode cX9_write 5 = .ok (.ifCond .eq 21, 3) := by decide +kernel
theorem dX9_write_8 : decode cX9_write 8 = .ok (.iload_n 2, 1) := by decide +kernel
theorem dX9_write_9 : decode cX9_write 9 = .ok (.bipush 16, 2) := by decide +kernel
theorem dX9_write_11 : decode cX9_write 11 = .ok (.invokestatic 195, 3) := by decide +kernel
theorem dX9_write_14 : decode cX9_write 14 = .ok (.ifCond .eq 12, 3) := by decide +kernel
theorem dX9_write_17 : decode cX9_write 17 = .ok (.aload_n 0, 1) := by decide +kernel
theorem dX9_write_18 : decode cX9_write 18 = .ok (.getfield 192, 3) := by decide +kernel
theorem dX9_write_21 : decode cX9_write 21 = .ok (.bipush 12, 2) := by decide +kernel
theorem dX9_write_23 : decode cX9_write 23 = .ok (.if_icmp .le 6, 3) := by decide +kernel
theorem dX9_write_26 : decode cX9_write 26 = .ok (.bipush (-9), 2) := by decide +kernel
theorem dX9_write_28 : decode cX9_write 28 = .ok (.ireturn, 1) := by decide +kernel
theorem dX9_write_29 : decode cX9_write 29 = .ok (.aload_n 0, 1) := by decide +kernel
theorem dX9_write_30 : decode cX9_write 30 = .ok (.iload_n 1, 1) := by decide +kernel
theorem dX9_write_31 : decode cX9_write 31 = .ok (.invokevirtual 198, 3) := by decide +kernel
theorem dX9_write_34 : decode cX9_write 34 = .ok (.istore_n 3, 1) := by decide +kernel
theorem dX9_write_35 : decode cX9_write 35 = .ok (.iload_n 3, 1) := by decide +kernel
theorem dX9_write_36 : decode cX9_write 36 = .ok (.ifCond .le 22, 3) := by decide +kernel
theorem dX9_write_39 : decode cX9_write 39 = .ok (.aload_n 0, 1) := by decide +kernel
theorem dX9_write_40 : decode cX9_write 40 = .ok (.dup, 1) := by decide +kernel
theorem dX9_write_41 : decode cX9_write 41 = .ok (.getfield 201, 3) := by decide +kernel
theorem dX9_write_44 : decode cX9_write 44 = .ok (.iconst 1, 1) := by decide +kernel
theorem dX9_write_45 : decode cX9_write 45 = .ok (.iadd, 1) := by decide +kernel
theorem dX9_write_46 : decode cX9_write 46 = .ok (.putfield 201, 3) := by decide +kernel
theorem dX9_write_49 : decode cX9_write 49 = .ok (.aload_n 0, 1) := by decide +kernel
theorem dX9_write_50 : decode cX9_write 50 = .ok (.iconst 0, 1) := by decide +kernel
theorem dX9_write_51 : decode cX9_write 51 = .ok (.putfield 192, 3) := by decide +kernel
theorem dX9_write_54 : decode cX9_write 54 = .ok (.iconst (-1), 1) := by decide +kernel
theorem dX9_write_55 : decode cX9_write 55 = .ok (.iload_n 3, 1) := by decide +kernel
theorem dX9_write_56 : decode cX9_write 56 = .ok (.isub, 1) := by decide +kernel
theorem dX9_write_57 : decode cX9_write 57 = .ok (.ireturn, 1) := by decide +kernel
theorem dX9_write_58 : decode cX9_write 58 = .ok (.bipush 16, 2) := by decide +kernel
theorem dX9_write_60 : decode cX9_write 60 = .ok (.aload_n 0, 1) := by decide +kernel
theorem dX9_write_61 : decode cX9_write 61 = .ok (.getfield 104, 3) := by decide +kernel
theorem dX9_write_64 : decode cX9_write 64 = .ok (.iload_n 1, 1) := by decide +kernel
theorem dX9_write_65 : decode cX9_write 65 = .ok (.iaload, 1) := by decide +kernel
theorem dX9_write_66 : decode cX9_write 66 = .ok (.imul, 1) := by decide +kernel
theorem dX9_write_67 : decode cX9_write 67 = .ok (.iload_n 2, 1) := by decide +kernel
theorem dX9_write_68 : decode cX9_write 68 = .ok (.iadd, 1) := by decide +kernel
theorem dX9_write_69 : decode cX9_write 69 = .ok (.istore 4, 2) := by decide +kernel
theorem dX9_write_71 : decode cX9_write 71 = .ok (.aload_n 0, 1) := by decide +kernel
theorem dX9_write_72 : decode cX9_write 72 = .ok (.getfield 97, 3) := by decide +kernel
theorem dX9_write_75 : decode cX9_write 75 = .ok (.iload 4, 2) := by decide +kernel
theorem dX9_write_77 : decode cX9_write 77 = .ok (.aload_n 0, 1) := by decide +kernel
theorem dX9_write_78 : decode cX9_write 78 = .ok (.getfield 192, 3) := by decide +kernel
theorem dX9_write_81 : decode cX9_write 81 = .ok (.iastore, 1) := by decide +kernel
theorem dX9_write_82 : decode cX9_write 82 = .ok (.iconst 0, 1) := by decide +kernel
theorem dX9_write_83 : decode cX9_write 83 = .ok (.istore 5, 2) := by decide +kernel
theorem dX9_write_85 : decode cX9_write 85 = .ok (.iload 5, 2) := by decide +kernel
theorem dX9_write_87 : decode cX9_write 87 = .ok (.aload_n 0, 1) := by decide +kernel
theorem dX9_write_88 : decode cX9_write 88 = .ok (.getfield 192, 3) := by decide +kernel
theorem dX9_write_91 : decode cX9_write 91 = .ok (.if_icmp .ge 29, 3) := by decide +kernel
theorem dX9_write_94 : decode cX9_write 94 = .ok (.aload_n 0, 1) := by decide +kernel
theorem dX9_write_95 : decode cX9_write 95 = .ok (.getfield 94, 3) := by decide +kernel
theorem dX9_write_98 : decode cX9_write 98 = .ok (.bipush 12, 2) := by decide +kernel
theorem dX9_write_100 : decode cX9_write 100 = .ok (.iload 4, 2) := by decide +kernel
theorem dX9_write_102 : decode cX9_write 102 = .ok (.imul, 1) := by decide +kernel
theorem dX9_write_103 : decode cX9_write 103 = .ok (.iload 5, 2) := by decide +kernel
theorem dX9_write_105 : decode cX9_write 105 = .ok (.iadd, 1) := by decide +kernel
theorem dX9_write_106 : decode cX9_write 106 = .ok (.aload_n 0, 1) := by decide +kernel
theorem dX9_write_107 : decode cX9_write 107 = .ok (.getfield 107, 3) := by decide +kernel
theorem dX9_write_110 : decode cX9_write 110 = .ok (.iload 5, 2) := by decide +kernel
theorem dX9_write_112 : decode cX9_write 112 = .ok (.iaload, 1) := by decide +kernel
theorem dX9_write_113 : decode cX9_write 113 = .ok (.iastore, 1) := by decide +kernel
theorem dX9_write_114 : decode cX9_write 114 = .ok (.iinc 5 1, 3) := by decide +kernel
theorem dX9_write_117 : decode cX9_write 117 = .ok (.goto (-32), 3) := by decide +kernel
theorem dX9_write_120 : decode cX9_write 120 = .ok (.aload_n 0, 1) := by decide +kernel
theorem dX9_write_121 : decode cX9_write 121 = .ok (.iconst 0, 1) := by decide +kernel
theorem dX9_write_122 : decode cX9_write 122 = .ok (.putfield 192, 3) := by decide +kernel
theorem dX9_write_125 : decode cX9_write 125 = .ok (.aload_n 0, 1) := by decide +kernel
theorem dX9_write_126 : decode cX9_write 126 = .ok (.iload_n 1, 1) := by decide +kernel
theorem dX9_write_127 : decode cX9_write 127 = .ok (.invokevirtual 204, 3) := by decide +kernel
theorem dX9_write_130 : decode cX9_write 130 = .ok (.iconst 1, 1) := by decide +kernel
theorem dX9_write_131 : decode cX9_write 131 = .ok (.ireturn, 1) := by decide +kernel
set_option maxRecDepth 20000 in
theorem ggX9_read_X9_isIn : GoodIn wsX9_read wsX9_isIn := goodIn_r _ [10] (by decide +kernel) (by decide +kernel)
set_option maxRecDepth 20000 in
theorem gX9_read_X9_isIn : GoodIn wsX9_read (va_wsS RX9 195 yX9_isIn wsX9_isIn) := goodIn_app (goodIn_of _ (by decide +kernel)) ggX9_read_X9_isIn
set_option maxRecDepth 20000 in
theorem ggX9_read_X9_check : GoodIn wsX9_read wsX9_check := goodIn_r _ [14, 2, 15, 16, 17, 18, 19, 20, 9, 21, 22, 23, 24, 25, 26, 27, 28, 29, 30, 31, 32, 33, 34, 35, 36, 37, 38, 39, 40, 41, 42, 43, 44, 45, 46, 47, 48, 49, 50, 51, 52, 53, 54, 55, 56, 57, 58, 59, 60, 61, 62, 63, 64, 65, 66, 67, 3, 6, 68, 69, 70, 71, 85, 86, 87, 88, 89, 90, 91, 92, 93, 94, 95, 96, 97, 98, 99, 100, 101, 102, 103, 104, 105, 106, 107] (by decide +kernel) (by decide +kernel)
set_option maxRecDepth 20000 in
theorem gX9_read_X9_check : GoodIn wsX9_read (wsV RX9 198 RX9 yX9_check wsX9_check) := goodIn_app (goodIn_of _ (by decide +kernel)) ggX9_read_X9_check
set_option maxRecDepth 20000 in
theorem ggX9_read_X9_advance : GoodIn wsX9_read wsX9_advance := goodIn_r _ [75, 2, 16, 15, 76, 68, 69, 70, 9, 71, 25, 26, 27, 58, 59, 60, 61, 62, 63, 64, 65, 66, 67, 32, 3, 6, 17, 24, 38, 39, 40, 41, 42, 43, 44, 45, 46, 47, 48, 49, 50, 51, 52, 53, 54, 55, 56, 57, 77, 78, 79, 80, 22, 23, 28, 29, 30, 31, 33, 34, 35, 36, 37, 81, 82, 83, 84, 85, 86, 87, 88, 89, 90, 91, 92, 93, 94, 95, 96, 97, 98, 99, 100, 101, 102, 103, 104, 105, 106, 107] (by decide +kernel) (by decide +kernel)
set_option maxRecDepth 20000 in
theorem gX9_read_X9_advance : GoodIn wsX9_read (wsV RX9 204 RX9 yX9_advance wsX9_advance) := goodIn_app (goodIn_of _ (by decide +kernel)) ggX9_read_X9_advance
theorem dX9_read_0 : decode cX9_read 0 = .ok (.iload_n 1, 1) := by decide +kernel
theorem dX9_read_1 : decode cX9_read 1 = .ok (.iconst 4, 1) := by decide +kernel
theorem dX9_read_2 : decode cX9_read 2 = .ok (.invokestatic 195, 3) := by decide +kernel
theorem dX9_read_5 : decode cX9_read 5 = .ok (.ifCond .eq 12, 3) := by decide +kernel
theorem dX9_read_8 : decode cX9_read 8 = .ok (.iload_n 2, 1) := by decide +kernel
theorem dX9_read_9 : decode cX9_read 9 = .ok (.bipush 16, 2) := by decide +kernel
theorem dX9_read_11 : decode cX9_read 11 = .ok (.invokestatic 195, 3) := by decide +kernel
theorem dX9_read_14 : decode cX9_read 14 = .ok (.ifCond .ne 6, 3) := by decide +kernel
theorem dX9_read_17 : decode cX9_read 17 = .ok (.bipush (-9), 2) := by decide +kernel
theorem dX9_read_19 : decode cX9_read 19 = .ok (.ireturn, 1) := by decide +kernel
theorem dX9_read_20 : decode cX9_read 20 = .ok (.aload_n 0, 1) := by decide +kernel
theorem dX9_read_21 : decode cX9_read 21 = .ok (.iload_n 1, 1) := by decide +kernel
theorem dX9_read_22 : decode cX9_read 22 = .ok (.invokevirtual 198, 3) := by decide +kernel
theorem dX9_read_25 : decode cX9_read 25 = .ok (.istore_n 3, 1) := by decide +kernel
theorem dX9_read_26 : decode cX9_read 26 = .ok (.iload_n 3, 1) := by decide +kernel
theorem dX9_read_27 : decode cX9_read 27 = .ok (.ifCond .le 17, 3) := by decide +kernel
theorem dX9_read_30 : decode cX9_read 30 = .ok (.aload_n 0, 1) := by decide +kernel
theorem dX9_read_31 : decode cX9_read 31 = .ok (.dup, 1) := by decide +kernel
theorem dX9_read_32 : decode cX9_read 32 = .ok (.getfield 201, 3) := by decide +kernel
theorem dX9_read_35 : decode cX9_read 35 = .ok (.iconst 1, 1) := by decide +kernel
theorem dX9_read_36 : decode cX9_read 36 = .ok (.iadd, 1) := by decide +kernel
theorem dX9_read_37 : decode cX9_read 37 = .ok (.putfield 201, 3) := by decide +kernel
theorem dX9_read_40 : decode cX9_read 40 = .ok (.iconst (-1), 1) := by decide +kernel
theorem dX9_read_41 : decode cX9_read 41 = .ok (.iload_n 3, 1) := by decide +kernel
theorem dX9_read_42 : decode cX9_read 42 = .ok (.isub, 1) := by decide +kernel
theorem dX9_read_43 : decode cX9_read 43 = .ok (.ireturn, 1) := by decide +kernel
theorem dX9_read_44 : decode cX9_read 44 = .ok (.bipush 16, 2) := by decide +kernel
theorem dX9_read_46 : decode cX9_read 46 = .ok (.aload_n 0, 1) := by decide +kernel
theorem dX9_read_47 : decode cX9_read 47 = .ok (.getfield 104, 3) := by decide +kernel
theorem dX9_read_50 : decode cX9_read 50 = .ok (.iload_n 1, 1) := by decide +kernel
theorem dX9_read_51 : decode cX9_read 51 = .ok (.iaload, 1) := by decide +kernel
theorem dX9_read_52 : decode cX9_read 52 = .ok (.imul, 1) := by decide +kernel
theorem dX9_read_53 : decode cX9_read 53 = .ok (.iload_n 2, 1) := by decide +kernel
theorem dX9_read_54 : decode cX9_read 54 = .ok (.iadd, 1) := by decide +kernel
theorem dX9_read_55 : decode cX9_read 55 = .ok (.istore 4, 2) := by decide +kernel
theorem dX9_read_57 : decode cX9_read 57 = .ok (.aload_n 0, 1) := by decide +kernel
theorem dX9_read_58 : decode cX9_read 58 = .ok (.aload_n 0, 1) := by decide +kernel
theorem dX9_read_59 : decode cX9_read 59 = .ok (.getfield 97, 3) := by decide +kernel
theorem dX9_read_62 : decode cX9_read 62 = .ok (.iload 4, 2) := by decide +kernel
theorem dX9_read_64 : decode cX9_read 64 = .ok (.iaload, 1) := by decide +kernel
theorem dX9_read_65 : decode cX9_read 65 = .ok (.putfield 207, 3) := by decide +kernel
theorem dX9_read_68 : decode cX9_read 68 = .ok (.iconst 0, 1) := by decide +kernel
theorem dX9_read_69 : decode cX9_read 69 = .ok (.istore 5, 2) := by decide +kernel
theorem dX9_read_71 : decode cX9_read 71 = .ok (.iload 5, 2) := by decide +kernel
theorem dX9_read_73 : decode cX9_read 73 = .ok (.aload_n 0, 1) := by decide +kernel
theorem dX9_read_74 : decode cX9_read 74 = .ok (.getfield 207, 3) := by decide +kernel
theorem dX9_read_77 : decode cX9_read 77 = .ok (.if_icmp .ge 29, 3) := by decide +kernel
theorem dX9_read_80 : decode cX9_read 80 = .ok (.aload_n 0, 1) := by decide +kernel
theorem dX9_read_81 : decode cX9_read 81 = .ok (.getfield 110, 3) := by decide +kernel
theorem dX9_read_84 : decode cX9_read 84 = .ok (.iload 5, 2) := by decide +kernel
theorem dX9_read_86 : decode cX9_read 86 = .ok (.aload_n 0, 1) := by decide +kernel
theorem dX9_read_87 : decode cX9_read 87 = .ok (.getfield 94, 3) := by decide +kernel
theorem dX9_read_90 : decode cX9_read 90 = .ok (.bipush 12, 2) := by decide +kernel
theorem dX9_read_92 : decode cX9_read 92 = .ok (.iload 4, 2) := by decide +kernel
theorem dX9_read_94 : decode cX9_read 94 = .ok (.imul, 1) := by decide +kernel
theorem dX9_read_95 : decode cX9_read 95 = .ok (.iload 5, 2) := by decide +kernel
theorem dX9_read_97 : decode cX9_read 97 = .ok (.iadd, 1) := by decide +kernel
theorem dX9_read_98 : decode cX9_read 98 = .ok (.iaload, 1) := by decide +kernel
theorem dX9_read_99 : decode cX9_read 99 = .ok (.iastore, 1) := by decide +kernel
theorem dX9_read_100 : decode cX9_read 100 = .ok (.iinc 5 1, 3) := by decide +kernel
theorem dX9_read_103 : decode cX9_read 103 = .ok (.goto (-32), 3) := by decide +kernel
theorem dX9_read_106 : decode cX9_read 106 = .ok (.aload_n 0, 1) := by decide +kernel
theorem dX9_read_107 : decode cX9_read 107 = .ok (.iload_n 1, 1) := by decide +kernel
theorem dX9_read_108 : decode cX9_read 108 = .ok (.invokevirtual 204, 3) := by decide +kernel
theorem dX9_read_111 : decode cX9_read 111 = .ok (.aload_n 0, 1) := by decide +kernel
theorem dX9_read_112 : decode cX9_read 112 = .ok (.getfield 207, 3) := by decide +kernel
theorem dX9_read_115 : decode cX9_read 115 = .ok (.ireturn, 1) := by decide +kernel
set_option maxRecDepth 20000 in
theorem ggX9_got_X9_isIn : GoodIn wsX9_got wsX9_isIn := goodIn_r _ [6] (by decide +kernel) (by decide +kernel)
set_option maxRecDepth 20000 in
theorem gX9_got_X9_isIn : GoodIn wsX9_got (va_wsS RX9 195 yX9_isIn wsX9_isIn) := goodIn_app (goodIn_of _ (by decide +kernel)) ggX9_got_X9_isIn
theorem dX9_got_0 : decode cX9_got 0 = .ok (.iload_n 1, 1) := by decide +kernel
theorem dX9_got_1 : decode cX9_got 1 = .ok (.aload_n 0, 1) := by decide +kernel
theorem dX9_got_2 : decode cX9_got 2 = .ok (.getfield 207, 3) := by decide +kernel
theorem dX9_got_5 : decode cX9_got 5 = .ok (.invokestatic 195, 3) := by decide +kernel
theorem dX9_got_8 : decode cX9_got 8 = .ok (.ifCond .eq 12, 3) := by decide +kernel
theorem dX9_got_11 : decode cX9_got 11 = .ok (.aload_n 0, 1) := by decide +kernel
theorem dX9_got_12 : decode cX9_got 12 = .ok (.getfield 110, 3) := by decide +kernel
theorem dX9_got_15 : decode cX9_got 15 = .ok (.iload_n 1, 1) := by decide +kernel
theorem dX9_got_16 : decode cX9_got 16 = .ok (.iaload, 1) := by decide +kernel
theorem dX9_got_17 : decode cX9_got 17 = .ok (.goto 4, 3) := by decide +kernel
theorem dX9_got_20 : decode cX9_got 20 = .ok (.iconst (-1), 1) := by decide +kernel
theorem dX9_got_21 : decode cX9_got 21 = .ok (.ireturn, 1) := by decide +kernel
set_option maxRecDepth 20000 in
theorem ggX9_split_X9_isIn : GoodIn wsX9_split wsX9_isIn := goodIn_r _ [8] (by decide +kernel) (by decide +kernel)
set_option maxRecDepth 20000 in
theorem gX9_split_X9_isIn : GoodIn wsX9_split (va_wsS RX9 195 yX9_isIn wsX9_isIn) := goodIn_app (goodIn_of _ (by decide +kernel)) ggX9_split_X9_isIn
theorem dX9_split_0 : decode cX9_split 0 = .ok (.iload_n 1, 1) := by decide +kernel
theorem dX9_split_1 : decode cX9_split 1 = .ok (.aload_n 0, 1) := by decide +kernel
theorem dX9_split_2 : decode cX9_split 2 = .ok (.getfield 100, 3) := by decide +kernel
theorem dX9_split_5 : decode cX9_split 5 = .ok (.invokestatic 195, 3) := by decide +kernel
theorem dX9_split_8 : decode cX9_split 8 = .ok (.ifCond .eq 12, 3) := by decide +kernel
theorem dX9_split_11 : decode cX9_split 11 = .ok (.aload_n 0, 1) := by decide +kernel
theorem dX9_split_12 : decode cX9_split 12 = .ok (.getfield 100, 3) := by decide +kernel
theorem dX9_split_15 : decode cX9_split 15 = .ok (.bipush 6, 2) := by decide +kernel
theorem dX9_split_17 : decode cX9_split 17 = .ok (.if_icmp .ne 5, 3) := by decide +kernel
theorem dX9_split_20 : decode cX9_split 20 = .ok (.iconst (-1), 1) := by decide +kernel
theorem dX9_split_21 : decode cX9_split 21 = .ok (.ireturn, 1) := by decide +kernel
theorem dX9_split_22 : decode cX9_split 22 = .ok (.iconst 0, 1) := by decide +kernel
theorem dX9_split_23 : decode cX9_split 23 = .ok (.istore_n 2, 1) := by decide +kernel
theorem dX9_split_24 : decode cX9_split 24 = .ok (.iload_n 2, 1) := by decide +kernel
theorem dX9_split_25 : decode cX9_split 25 = .ok (.sipush 336, 3) := by decide +kernel
theorem dX9_split_28 : decode cX9_split 28 = .ok (.if_icmp .ge 36, 3) := by decide +kernel
theorem dX9_split_31 : decode cX9_split 31 = .ok (.aload_n 0, 1) := by decide +kernel
theorem dX9_split_32 : decode cX9_split 32 = .ok (.getfield 88, 3) := by decide +kernel
theorem dX9_split_35 : decode cX9_split 35 = .ok (.sipush 336, 3) := by decide +kernel
