theorem dX9_isNotAbove_33 : decode cX9_isNotAbove 33 = .ok (.iconst 1, 1) := by decide +kernel
theorem dX9_isNotAbove_34 : decode cX9_isNotAbove 34 = .ok (.goto 4, 3) := by decide +kernel
theorem dX9_isNotAbove_37 : decode cX9_isNotAbove 37 = .ok (.iconst 0, 1) := by decide +kernel
theorem dX9_isNotAbove_38 : decode cX9_isNotAbove 38 = .ok (.istore_n 3, 1) := by decide +kernel
theorem dX9_isNotAbove_39 : decode cX9_isNotAbove 39 = .ok (.iinc 4 1, 3) := by decide +kernel
theorem dX9_isNotAbove_42 : decode cX9_isNotAbove 42 = .ok (.goto (-37), 3) := by decide +kernel
theorem dX9_isNotAbove_45 : decode cX9_isNotAbove 45 = .ok (.iload_n 3, 1) := by decide +kernel
theorem dX9_isNotAbove_46 : decode cX9_isNotAbove 46 = .ok (.ireturn, 1) := by decide +kernel
set_option maxRecDepth 20000 in
theorem ggX9_isSigned_X9_placeOf : GoodIn wsX9_isSigned wsX9_placeOf := goodIn_r _ [8] (by decide +kernel) (by decide +kernel)
set_option maxRecDepth 20000 in
theorem gX9_isSigned_X9_placeOf : GoodIn wsX9_isSigned (va_wsS RX9 170 yX9_placeOf wsX9_placeOf) := goodIn_app (goodIn_of _ (by decide +kernel)) ggX9_isSigned_X9_placeOf
set_option maxRecDepth 20000 in
theorem ggX9_isSigned_X9_mac : GoodIn wsX9_isSigned wsX9_mac := goodIn_r _ [12, 13, 1, 2, 14, 4, 15, 16, 17, 7, 18, 19, 20, 21, 22, 23, 24, 25, 26, 27, 28, 29, 30, 31, 32, 33, 34, 35, 36, 37, 38, 39, 40, 41, 42, 43, 44, 45, 46, 47, 48, 49, 50, 51, 52, 53, 54, 55, 56, 57, 58, 59, 60, 61] (by decide +kernel) (by decide +kernel)
set_option maxRecDepth 20000 in
theorem gX9_isSigned_X9_mac : GoodIn wsX9_isSigned (wsV RX9 167 RX9 yX9_mac wsX9_mac) := goodIn_app (goodIn_of _ (by decide +kernel)) ggX9_isSigned_X9_mac
theorem dX9_isSigned_0 : decode cX9_isSigned 0 = .ok (.iload_n 1, 1) := by decide +kernel
theorem dX9_isSigned_1 : decode cX9_isSigned 1 = .ok (.iload_n 2, 1) := by decide +kernel
theorem dX9_isSigned_2 : decode cX9_isSigned 2 = .ok (.invokestatic 170, 3) := by decide +kernel
theorem dX9_isSigned_5 : decode cX9_isSigned 5 = .ok (.istore_n 3, 1) := by decide +kernel
theorem dX9_isSigned_6 : decode cX9_isSigned 6 = .ok (.aload_n 0, 1) := by decide +kernel
theorem dX9_isSigned_7 : decode cX9_isSigned 7 = .ok (.bipush 52, 2) := by decide +kernel
theorem dX9_isSigned_9 : decode cX9_isSigned 9 = .ok (.putfield 161, 3) := by decide +kernel
theorem dX9_isSigned_12 : decode cX9_isSigned 12 = .ok (.iconst 0, 1) := by decide +kernel
theorem dX9_isSigned_13 : decode cX9_isSigned 13 = .ok (.istore 4, 2) := by decide +kernel
theorem dX9_isSigned_15 : decode cX9_isSigned 15 = .ok (.iload 4, 2) := by decide +kernel
theorem dX9_isSigned_17 : decode cX9_isSigned 17 = .ok (.bipush 52, 2) := by decide +kernel
theorem dX9_isSigned_19 : decode cX9_isSigned 19 = .ok (.if_icmp .ge 25, 3) := by decide +kernel
theorem dX9_isSigned_22 : decode cX9_isSigned 22 = .ok (.aload_n 0, 1) := by decide +kernel
theorem dX9_isSigned_23 : decode cX9_isSigned 23 = .ok (.getfield 131, 3) := by decide +kernel
theorem dX9_isSigned_26 : decode cX9_isSigned 26 = .ok (.iload 4, 2) := by decide +kernel
theorem dX9_isSigned_28 : decode cX9_isSigned 28 = .ok (.aload_n 0, 1) := by decide +kernel
theorem dX9_isSigned_29 : decode cX9_isSigned 29 = .ok (.getfield 88, 3) := by decide +kernel
theorem dX9_isSigned_32 : decode cX9_isSigned 32 = .ok (.iload_n 3, 1) := by decide +kernel
theorem dX9_isSigned_33 : decode cX9_isSigned 33 = .ok (.iload 4, 2) := by decide +kernel
theorem dX9_isSigned_35 : decode cX9_isSigned 35 = .ok (.iadd, 1) := by decide +kernel
theorem dX9_isSigned_36 : decode cX9_isSigned 36 = .ok (.iaload, 1) := by decide +kernel
theorem dX9_isSigned_37 : decode cX9_isSigned 37 = .ok (.iastore, 1) := by decide +kernel
theorem dX9_isSigned_38 : decode cX9_isSigned 38 = .ok (.iinc 4 1, 3) := by decide +kernel
theorem dX9_isSigned_41 : decode cX9_isSigned 41 = .ok (.goto (-26), 3) := by decide +kernel
theorem dX9_isSigned_44 : decode cX9_isSigned 44 = .ok (.aload_n 0, 1) := by decide +kernel
theorem dX9_isSigned_45 : decode cX9_isSigned 45 = .ok (.invokevirtual 167, 3) := by decide +kernel
theorem dX9_isSigned_48 : decode cX9_isSigned 48 = .ok (.aload_n 0, 1) := by decide +kernel
theorem dX9_isSigned_49 : decode cX9_isSigned 49 = .ok (.getfield 88, 3) := by decide +kernel
theorem dX9_isSigned_52 : decode cX9_isSigned 52 = .ok (.iload_n 3, 1) := by decide +kernel
theorem dX9_isSigned_53 : decode cX9_isSigned 53 = .ok (.iaload, 1) := by decide +kernel
theorem dX9_isSigned_54 : decode cX9_isSigned 54 = .ok (.iload_n 2, 1) := by decide +kernel
theorem dX9_isSigned_55 : decode cX9_isSigned 55 = .ok (.if_icmp .ne 7, 3) := by decide +kernel
theorem dX9_isSigned_58 : decode cX9_isSigned 58 = .ok (.iconst 1, 1) := by decide +kernel
theorem dX9_isSigned_59 : decode cX9_isSigned 59 = .ok (.goto 4, 3) := by decide +kernel
theorem dX9_isSigned_62 : decode cX9_isSigned 62 = .ok (.iconst 0, 1) := by decide +kernel
theorem dX9_isSigned_63 : decode cX9_isSigned 63 = .ok (.istore 4, 2) := by decide +kernel
theorem dX9_isSigned_65 : decode cX9_isSigned 65 = .ok (.iconst 0, 1) := by decide +kernel
theorem dX9_isSigned_66 : decode cX9_isSigned 66 = .ok (.istore 5, 2) := by decide +kernel
theorem dX9_isSigned_68 : decode cX9_isSigned 68 = .ok (.iload 5, 2) := by decide +kernel
theorem dX9_isSigned_70 : decode cX9_isSigned 70 = .ok (.bipush 32, 2) := by decide +kernel
theorem dX9_isSigned_72 : decode cX9_isSigned 72 = .ok (.if_icmp .ge 43, 3) := by decide +kernel
theorem dX9_isSigned_75 : decode cX9_isSigned 75 = .ok (.iload 4, 2) := by decide +kernel
theorem dX9_isSigned_77 : decode cX9_isSigned 77 = .ok (.ifCond .eq 29, 3) := by decide +kernel
theorem dX9_isSigned_80 : decode cX9_isSigned 80 = .ok (.aload_n 0, 1) := by decide +kernel
theorem dX9_isSigned_81 : decode cX9_isSigned 81 = .ok (.getfield 88, 3) := by decide +kernel
theorem dX9_isSigned_84 : decode cX9_isSigned 84 = .ok (.iload_n 3, 1) := by decide +kernel
theorem dX9_isSigned_85 : decode cX9_isSigned 85 = .ok (.bipush 52, 2) := by decide +kernel
theorem dX9_isSigned_87 : decode cX9_isSigned 87 = .ok (.iadd, 1) := by decide +kernel
theorem dX9_isSigned_88 : decode cX9_isSigned 88 = .ok (.iload 5, 2) := by decide +kernel
theorem dX9_isSigned_90 : decode cX9_isSigned 90 = .ok (.iadd, 1) := by decide +kernel
theorem dX9_isSigned_91 : decode cX9_isSigned 91 = .ok (.iaload, 1) := by decide +kernel
theorem dX9_isSigned_92 : decode cX9_isSigned 92 = .ok (.aload_n 0, 1) := by decide +kernel
theorem dX9_isSigned_93 : decode cX9_isSigned 93 = .ok (.getfield 116, 3) := by decide +kernel
theorem dX9_isSigned_96 : decode cX9_isSigned 96 = .ok (.iload 5, 2) := by decide +kernel
theorem dX9_isSigned_98 : decode cX9_isSigned 98 = .ok (.iaload, 1) := by decide +kernel
theorem dX9_isSigned_99 : decode cX9_isSigned 99 = .ok (.if_icmp .ne 7, 3) := by decide +kernel
theorem dX9_isSigned_102 : decode cX9_isSigned 102 = .ok (.iconst 1, 1) := by decide +kernel
theorem dX9_isSigned_103 : decode cX9_isSigned 103 = .ok (.goto 4, 3) := by decide +kernel
theorem dX9_isSigned_106 : decode cX9_isSigned 106 = .ok (.iconst 0, 1) := by decide +kernel
theorem dX9_isSigned_107 : decode cX9_isSigned 107 = .ok (.istore 4, 2) := by decide +kernel
theorem dX9_isSigned_109 : decode cX9_isSigned 109 = .ok (.iinc 5 1, 3) := by decide +kernel
theorem dX9_isSigned_112 : decode cX9_isSigned 112 = .ok (.goto (-44), 3) := by decide +kernel
theorem dX9_isSigned_115 : decode cX9_isSigned 115 = .ok (.iload 4, 2) := by decide +kernel
theorem dX9_isSigned_117 : decode cX9_isSigned 117 = .ok (.ireturn, 1) := by decide +kernel
set_option maxRecDepth 20000 in
theorem ggX9_greatest_X9_placeOf : GoodIn wsX9_greatest wsX9_placeOf := goodIn_r _ [5] (by decide +kernel) (by decide +kernel)
set_option maxRecDepth 20000 in
theorem gX9_greatest_X9_placeOf : GoodIn wsX9_greatest (va_wsS RX9 170 yX9_placeOf wsX9_placeOf) := goodIn_app (goodIn_of _ (by decide +kernel)) ggX9_greatest_X9_placeOf
set_option maxRecDepth 20000 in
theorem ggX9_greatest_X9_isNotAbove : GoodIn wsX9_greatest wsX9_isNotAbove := goodIn_r _ [8, 9, 10, 4, 11] (by decide +kernel) (by decide +kernel)
set_option maxRecDepth 20000 in
theorem gX9_greatest_X9_isNotAbove : GoodIn wsX9_greatest (va_wsS RX9 177 yX9_isNotAbove wsX9_isNotAbove) := goodIn_app (goodIn_of _ (by decide +kernel)) ggX9_greatest_X9_isNotAbove
theorem dX9_greatest_0 : decode cX9_greatest 0 = .ok (.iconst (-1), 1) := by decide +kernel
theorem dX9_greatest_1 : decode cX9_greatest 1 = .ok (.istore_n 2, 1) := by decide +kernel
theorem dX9_greatest_2 : decode cX9_greatest 2 = .ok (.iconst 0, 1) := by decide +kernel
theorem dX9_greatest_3 : decode cX9_greatest 3 = .ok (.istore_n 3, 1) := by decide +kernel
theorem dX9_greatest_4 : decode cX9_greatest 4 = .ok (.iload_n 3, 1) := by decide +kernel
theorem dX9_greatest_5 : decode cX9_greatest 5 = .ok (.iconst 4, 1) := by decide +kernel
theorem dX9_greatest_6 : decode cX9_greatest 6 = .ok (.if_icmp .ge 76, 3) := by decide +kernel
theorem dX9_greatest_9 : decode cX9_greatest 9 = .ok (.iload_n 2, 1) := by decide +kernel
theorem dX9_greatest_10 : decode cX9_greatest 10 = .ok (.iconst (-1), 1) := by decide +kernel
theorem dX9_greatest_11 : decode cX9_greatest 11 = .ok (.if_icmp .ne 71, 3) := by decide +kernel
theorem dX9_greatest_14 : decode cX9_greatest 14 = .ok (.iconst 1, 1) := by decide +kernel
theorem dX9_greatest_15 : decode cX9_greatest 15 = .ok (.istore 4, 2) := by decide +kernel
theorem dX9_greatest_17 : decode cX9_greatest 17 = .ok (.iconst 0, 1) := by decide +kernel
theorem dX9_greatest_18 : decode cX9_greatest 18 = .ok (.istore 5, 2) := by decide +kernel
theorem dX9_greatest_20 : decode cX9_greatest 20 = .ok (.iload 5, 2) := by decide +kernel
theorem dX9_greatest_22 : decode cX9_greatest 22 = .ok (.iconst 4, 1) := by decide +kernel
theorem dX9_greatest_23 : decode cX9_greatest 23 = .ok (.if_icmp .ge 42, 3) := by decide +kernel
theorem dX9_greatest_26 : decode cX9_greatest 26 = .ok (.iload 4, 2) := by decide +kernel
theorem dX9_greatest_28 : decode cX9_greatest 28 = .ok (.ifCond .eq 28, 3) := by decide +kernel
theorem dX9_greatest_31 : decode cX9_greatest 31 = .ok (.aload_n 0, 1) := by decide +kernel
theorem dX9_greatest_32 : decode cX9_greatest 32 = .ok (.getfield 88, 3) := by decide +kernel
theorem dX9_greatest_35 : decode cX9_greatest 35 = .ok (.iload_n 1, 1) := by decide +kernel
theorem dX9_greatest_36 : decode cX9_greatest 36 = .ok (.iload 5, 2) := by decide +kernel
theorem dX9_greatest_38 : decode cX9_greatest 38 = .ok (.invokestatic 170, 3) := by decide +kernel
theorem dX9_greatest_41 : decode cX9_greatest 41 = .ok (.iload_n 1, 1) := by decide +kernel
theorem dX9_greatest_42 : decode cX9_greatest 42 = .ok (.iload_n 3, 1) := by decide +kernel
theorem dX9_greatest_43 : decode cX9_greatest 43 = .ok (.invokestatic 170, 3) := by decide +kernel
theorem dX9_greatest_46 : decode cX9_greatest 46 = .ok (.invokestatic 177, 3) := by decide +kernel
theorem dX9_greatest_49 : decode cX9_greatest 49 = .ok (.ifCond .eq 7, 3) := by decide +kernel
theorem dX9_greatest_52 : decode cX9_greatest 52 = .ok (.iconst 1, 1) := by decide +kernel
theorem dX9_greatest_53 : decode cX9_greatest 53 = .ok (.goto 4, 3) := by decide +kernel
theorem dX9_greatest_56 : decode cX9_greatest 56 = .ok (.iconst 0, 1) := by decide +kernel
theorem dX9_greatest_57 : decode cX9_greatest 57 = .ok (.istore 4, 2) := by decide +kernel
theorem dX9_greatest_59 : decode cX9_greatest 59 = .ok (.iinc 5 1, 3) := by decide +kernel
theorem dX9_greatest_62 : decode cX9_greatest 62 = .ok (.goto (-42), 3) := by decide +kernel
theorem dX9_greatest_65 : decode cX9_greatest 65 = .ok (.iload 4, 2) := by decide +kernel
theorem dX9_greatest_67 : decode cX9_greatest 67 = .ok (.ifCond .eq 7, 3) := by decide +kernel
theorem dX9_greatest_70 : decode cX9_greatest 70 = .ok (.iload_n 3, 1) := by decide +kernel
theorem dX9_greatest_71 : decode cX9_greatest 71 = .ok (.goto 4, 3) := by decide +kernel
theorem dX9_greatest_74 : decode cX9_greatest 74 = .ok (.iload_n 2, 1) := by decide +kernel
theorem dX9_greatest_75 : decode cX9_greatest 75 = .ok (.istore_n 2, 1) := by decide +kernel
theorem dX9_greatest_76 : decode cX9_greatest 76 = .ok (.iinc 3 1, 3) := by decide +kernel
theorem dX9_greatest_79 : decode cX9_greatest 79 = .ok (.goto (-75), 3) := by decide +kernel
theorem dX9_greatest_82 : decode cX9_greatest 82 = .ok (.iload_n 2, 1) := by decide +kernel
theorem dX9_greatest_83 : decode cX9_greatest 83 = .ok (.ireturn, 1) := by decide +kernel
set_option maxRecDepth 20000 in
theorem ggX9_check_X9_isSigned : GoodIn wsX9_check wsX9_isSigned := goodIn_r _ [9, 10, 11, 2, 12, 13, 14, 8, 15, 16, 17, 18, 19, 20, 21, 22, 23, 24, 25, 26, 27, 28, 29, 30, 31, 32, 33, 34, 35, 36, 37, 38, 39, 40, 41, 42, 43, 44, 45, 62, 63, 64, 65, 66, 67, 68, 69, 70, 71, 72, 73, 74, 75, 76, 77, 78, 79, 80, 81, 82, 83, 84] (by decide +kernel) (by decide +kernel)
set_option maxRecDepth 20000 in
theorem gX9_check_X9_isSigned : GoodIn wsX9_check (wsV RX9 181 RX9 yX9_isSigned wsX9_isSigned) := goodIn_app (goodIn_of _ (by decide +kernel)) ggX9_check_X9_isSigned
set_option maxRecDepth 20000 in
theorem ggX9_check_X9_placeOf : GoodIn wsX9_check wsX9_placeOf := goodIn_r _ [15] (by decide +kernel) (by decide +kernel)
set_option maxRecDepth 20000 in
theorem gX9_check_X9_placeOf : GoodIn wsX9_check (va_wsS RX9 170 yX9_placeOf wsX9_placeOf) := goodIn_app (goodIn_of _ (by decide +kernel)) ggX9_check_X9_placeOf
set_option maxRecDepth 20000 in
theorem ggX9_check_X9_isNotAbove : GoodIn wsX9_check wsX9_isNotAbove := goodIn_r _ [48, 49, 50, 8, 51] (by decide +kernel) (by decide +kernel)
set_option maxRecDepth 20000 in
theorem gX9_check_X9_isNotAbove : GoodIn wsX9_check (va_wsS RX9 177 yX9_isNotAbove wsX9_isNotAbove) := goodIn_app (goodIn_of _ (by decide +kernel)) ggX9_check_X9_isNotAbove
set_option maxRecDepth 20000 in
theorem ggX9_check_X9_findRoot : GoodIn wsX9_check wsX9_findRoot := goodIn_r _ [55, 20, 56, 57, 4, 12, 26, 27, 28, 8, 29, 30, 31, 32, 33, 34, 35, 36, 37, 38, 39, 40, 41, 42, 43, 44, 45, 62, 63, 64, 65, 66, 67, 68, 69, 70, 71, 72, 73, 74, 75, 76, 77, 78, 79, 80, 81, 82, 83, 84] (by decide +kernel) (by decide +kernel)
set_option maxRecDepth 20000 in
theorem gX9_check_X9_findRoot : GoodIn wsX9_check (wsV RX9 134 RX9 yX9_findRoot wsX9_findRoot) := goodIn_app (goodIn_of _ (by decide +kernel)) ggX9_check_X9_findRoot
set_option maxRecDepth 20000 in
theorem ggX9_check_X9_greatest : GoodIn wsX9_check wsX9_greatest := goodIn_r _ [61, 2, 13, 14, 8, 15, 46, 47, 48, 49, 50, 51, 62, 63, 64, 65, 66, 67, 68, 69, 70, 71, 72, 73, 74, 75, 76, 77, 78, 79, 80, 81, 82, 83, 84] (by decide +kernel) (by decide +kernel)
set_option maxRecDepth 20000 in
theorem gX9_check_X9_greatest : GoodIn wsX9_check (wsV RX9 185 RX9 yX9_greatest wsX9_greatest) := goodIn_app (goodIn_of _ (by decide +kernel)) ggX9_check_X9_greatest
theorem dX9_check_0 : decode cX9_check 0 = .ok (.aload_n 0, 1) := by decide +kernel
theorem dX9_check_1 : decode cX9_check 1 = .ok (.getfield 104, 3) := by decide +kernel
theorem dX9_check_4 : decode cX9_check 4 = .ok (.iload_n 1, 1) := by decide +kernel
theorem dX9_check_5 : decode cX9_check 5 = .ok (.iaload, 1) := by decide +kernel
theorem dX9_check_6 : decode cX9_check 6 = .ok (.istore_n 2, 1) := by decide +kernel
theorem dX9_check_7 : decode cX9_check 7 = .ok (.iconst 0, 1) := by decide +kernel
theorem dX9_check_8 : decode cX9_check 8 = .ok (.istore_n 3, 1) := by decide +kernel
theorem dX9_check_9 : decode cX9_check 9 = .ok (.iload_n 3, 1) := by decide +kernel
theorem dX9_check_10 : decode cX9_check 10 = .ok (.iconst 4, 1) := by decide +kernel
theorem dX9_check_11 : decode cX9_check 11 = .ok (.if_icmp .ge 20, 3) := by decide +kernel
theorem dX9_check_14 : decode cX9_check 14 = .ok (.aload_n 0, 1) := by decide +kernel
theorem dX9_check_15 : decode cX9_check 15 = .ok (.iload_n 2, 1) := by decide +kernel
theorem dX9_check_16 : decode cX9_check 16 = .ok (.iload_n 3, 1) := by decide +kernel
theorem dX9_check_17 : decode cX9_check 17 = .ok (.invokevirtual 181, 3) := by decide +kernel
theorem dX9_check_20 : decode cX9_check 20 = .ok (.ifCond .ne 5, 3) := by decide +kernel
theorem dX9_check_23 : decode cX9_check 23 = .ok (.iconst 1, 1) := by decide +kernel
theorem dX9_check_24 : decode cX9_check 24 = .ok (.ireturn, 1) := by decide +kernel
theorem dX9_check_25 : decode cX9_check 25 = .ok (.iinc 3 1, 3) := by decide +kernel
theorem dX9_check_28 : decode cX9_check 28 = .ok (.goto (-19), 3) := by decide +kernel
theorem dX9_check_31 : decode cX9_check 31 = .ok (.iconst 0, 1) := by decide +kernel
theorem dX9_check_32 : decode cX9_check 32 = .ok (.istore_n 3, 1) := by decide +kernel
theorem dX9_check_33 : decode cX9_check 33 = .ok (.iload_n 3, 1) := by decide +kernel
theorem dX9_check_34 : decode cX9_check 34 = .ok (.bipush 84, 2) := by decide +kernel
theorem dX9_check_36 : decode cX9_check 36 = .ok (.if_icmp .ge 37, 3) := by decide +kernel
theorem dX9_check_39 : decode cX9_check 39 = .ok (.aload_n 0, 1) := by decide +kernel
theorem dX9_check_40 : decode cX9_check 40 = .ok (.getfield 88, 3) := by decide +kernel
theorem dX9_check_43 : decode cX9_check 43 = .ok (.iload_n 2, 1) := by decide +kernel
theorem dX9_check_44 : decode cX9_check 44 = .ok (.iload_n 1, 1) := by decide +kernel
theorem dX9_check_45 : decode cX9_check 45 = .ok (.invokestatic 170, 3) := by decide +kernel
theorem dX9_check_48 : decode cX9_check 48 = .ok (.iload_n 3, 1) := by decide +kernel
theorem dX9_check_49 : decode cX9_check 49 = .ok (.iadd, 1) := by decide +kernel
theorem dX9_check_50 : decode cX9_check 50 = .ok (.iaload, 1) := by decide +kernel
theorem dX9_check_51 : decode cX9_check 51 = .ok (.aload_n 0, 1) := by decide +kernel
theorem dX9_check_52 : decode cX9_check 52 = .ok (.getfield 91, 3) := by decide +kernel
theorem dX9_check_55 : decode cX9_check 55 = .ok (.bipush 84, 2) := by decide +kernel
theorem dX9_check_57 : decode cX9_check 57 = .ok (.iload_n 1, 1) := by decide +kernel
theorem dX9_check_58 : decode cX9_check 58 = .ok (.imul, 1) := by decide +kernel
theorem dX9_check_59 : decode cX9_check 59 = .ok (.iload_n 3, 1) := by decide +kernel
theorem dX9_check_60 : decode cX9_check 60 = .ok (.iadd, 1) := by decide +kernel
theorem dX9_check_61 : decode cX9_check 61 = .ok (.iaload, 1) := by decide +kernel
theorem dX9_check_62 : decode cX9_check 62 = .ok (.if_icmp .eq 5, 3) := by decide +kernel
theorem dX9_check_65 : decode cX9_check 65 = .ok (.iconst 2, 1) := by decide +kernel
theorem dX9_check_66 : decode cX9_check 66 = .ok (.ireturn, 1) := by decide +kernel
theorem dX9_check_67 : decode cX9_check 67 = .ok (.iinc 3 1, 3) := by decide +kernel
theorem dX9_check_70 : decode cX9_check 70 = .ok (.goto (-37), 3) := by decide +kernel
theorem dX9_check_73 : decode cX9_check 73 = .ok (.iconst 0, 1) := by decide +kernel
theorem dX9_check_74 : decode cX9_check 74 = .ok (.istore_n 3, 1) := by decide +kernel
theorem dX9_check_75 : decode cX9_check 75 = .ok (.iload_n 3, 1) := by decide +kernel
theorem dX9_check_76 : decode cX9_check 76 = .ok (.iconst 4, 1) := by decide +kernel
theorem dX9_check_77 : decode cX9_check 77 = .ok (.if_icmp .ge 69, 3) := by decide +kernel
theorem dX9_check_80 : decode cX9_check 80 = .ok (.iconst 0, 1) := by decide +kernel
theorem dX9_check_81 : decode cX9_check 81 = .ok (.istore 4, 2) := by decide +kernel
theorem dX9_check_83 : decode cX9_check 83 = .ok (.iload 4, 2) := by decide +kernel
theorem dX9_check_85 : decode cX9_check 85 = .ok (.iload_n 3, 1) := by decide +kernel
theorem dX9_check_86 : decode cX9_check 86 = .ok (.if_icmp .ge 54, 3) := by decide +kernel
theorem dX9_check_89 : decode cX9_check 89 = .ok (.iload_n 2, 1) := by decide +kernel
theorem dX9_check_90 : decode cX9_check 90 = .ok (.iload_n 3, 1) := by decide +kernel
theorem dX9_check_91 : decode cX9_check 91 = .ok (.invokestatic 170, 3) := by decide +kernel
theorem dX9_check_94 : decode cX9_check 94 = .ok (.istore 5, 2) := by decide +kernel
theorem dX9_check_96 : decode cX9_check 96 = .ok (.iload_n 2, 1) := by decide +kernel
theorem dX9_check_97 : decode cX9_check 97 = .ok (.iload 4, 2) := by decide +kernel
theorem dX9_check_99 : decode cX9_check 99 = .ok (.invokestatic 170, 3) := by decide +kernel
theorem dX9_check_102 : decode cX9_check 102 = .ok (.istore 6, 2) := by decide +kernel
theorem dX9_check_104 : decode cX9_check 104 = .ok (.aload_n 0, 1) := by decide +kernel
theorem dX9_check_105 : decode cX9_check 105 = .ok (.getfield 88, 3) := by decide +kernel
