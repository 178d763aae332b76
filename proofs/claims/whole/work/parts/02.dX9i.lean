theorem dX9_feed_30 : decode cX9_feed 30 = .ok (.iload_n 1, 1) := by decide +kernel
theorem dX9_feed_31 : decode cX9_feed 31 = .ok (.iastore, 1) := by decide +kernel
theorem dX9_feed_32 : decode cX9_feed 32 = .ok (.aload_n 0, 1) := by decide +kernel
theorem dX9_feed_33 : decode cX9_feed 33 = .ok (.dup, 1) := by decide +kernel
theorem dX9_feed_34 : decode cX9_feed 34 = .ok (.getfield 192, 3) := by decide +kernel
theorem dX9_feed_37 : decode cX9_feed 37 = .ok (.iconst 1, 1) := by decide +kernel
theorem dX9_feed_38 : decode cX9_feed 38 = .ok (.iadd, 1) := by decide +kernel
theorem dX9_feed_39 : decode cX9_feed 39 = .ok (.putfield 192, 3) := by decide +kernel
theorem dX9_feed_42 : decode cX9_feed 42 = .ok (.iconst 1, 1) := by decide +kernel
theorem dX9_feed_43 : decode cX9_feed 43 = .ok (.ireturn, 1) := by decide +kernel
set_option maxRecDepth 20000 in
theorem ggX9_write_X9_isIn : GoodIn wsX9_write wsX9_isIn := goodIn_r _ [10] (by decide +kernel) (by decide +kernel)
set_option maxRecDepth 20000 in
theorem gX9_write_X9_isIn : GoodIn wsX9_write (va_wsS RX9 195 yX9_isIn wsX9_isIn) := goodIn_app (goodIn_of _ (by decide +kernel)) ggX9_write_X9_isIn
set_option maxRecDepth 20000 in
theorem ggX9_write_X9_check : GoodIn wsX9_write wsX9_check := goodIn_r _ [14, 3, 15, 16, 17, 18, 19, 20, 9, 21, 22, 23, 24, 25, 26, 27, 28, 29, 30, 31, 32, 33, 34, 35, 36, 37, 38, 39, 40, 41, 42, 43, 44, 45, 46, 47, 48, 49, 50, 51, 52, 53, 54, 55, 56, 57, 58, 59, 60, 61, 62, 63, 64, 65, 66, 67, 4, 5, 68, 69, 70, 71, 85, 86, 87, 88, 89, 90, 91, 92, 93, 94, 95, 96, 97, 98, 99, 100, 101, 102, 103, 104, 105, 106, 107] (by decide +kernel) (by decide +kernel)
set_option maxRecDepth 20000 in
theorem gX9_write_X9_check : GoodIn wsX9_write (wsV RX9 198 RX9 yX9_check wsX9_check) := goodIn_app (goodIn_of _ (by decide +kernel)) ggX9_write_X9_check
set_option maxRecDepth 20000 in
theorem ggX9_write_X9_advance : GoodIn wsX9_write wsX9_advance := goodIn_r _ [75, 3, 16, 15, 76, 68, 69, 70, 9, 71, 25, 26, 27, 58, 59, 60, 61, 62, 63, 64, 65, 66, 67, 32, 4, 5, 17, 24, 38, 39, 40, 41, 42, 43, 44, 45, 46, 47, 48, 49, 50, 51, 52, 53, 54, 55, 56, 57, 77, 78, 79, 80, 22, 23, 28, 29, 30, 31, 33, 34, 35, 36, 37, 81, 82, 83, 84, 85, 86, 87, 88, 89, 90, 91, 92, 93, 94, 95, 96, 97, 98, 99, 100, 101, 102, 103, 104, 105, 106, 107] (by decide +kernel) (by decide +kernel)
set_option maxRecDepth 20000 in
theorem gX9_write_X9_advance : GoodIn wsX9_write (wsV RX9 204 RX9 yX9_advance wsX9_advance) := goodIn_app (goodIn_of _ (by decide +kernel)) ggX9_write_X9_advance
theorem dX9_write_0 : decode cX9_write 0 = .ok (.iload_n 1, 1) := by decide +kernel
theorem dX9_write_1 : decode cX9_write 1 = .ok (.iconst 4, 1) := by decide +kernel
theorem dX9_write_2 : decode cX9_write 2 = .ok (.invokestatic 195, 3) := by decide +kernel
theorem dX9_write_5 : decode cX9_write 5 = .ok (.ifCond .eq 21, 3) := by decide +kernel
theorem dX9_write_8 : decode cX9_write 8 = .ok (.iload_n 2, 1) := by decide +kernel
theorem dX9_write_9 : decode cX9_write 9 = .ok (.bipush 16, 2) := by decide +kernel
theorem dX9_write_11 : decode cX9_write 11 = .ok (.invokestatic 195, 3) := by decide +kernel
theorem dX9_write_14 : decode cX9_write 14 = .ok (.ifCond .eq 12, 3) := by decide +kernel
theorem dX9_write_17 : decode cX9_write 17 = .ok (.aload_n 0, 1) := by decide +kernel
theorem dX9_write_18 : decode cX9_write 18 = .ok (.getfield 192, 3) := by decide +kernel
theorem dX9_write_21 : decode cX9_write 21 = .ok (.bipush 12, 2) := by decide +kernel
theorem dX9_write_23 : decode cX9_write 23 = .ok (.if_icmp .le 6, 3) := by decide +kernel
theorem dX9_write_26 : decode cX9_write 26 = .ok (.bipush (-9), 2) := by decide +kernel
theorem dX9_write_28 : decode cX9_write 28 = .ok (.ireturn, 1) := by decide +kernel
theorem dX9_write_29 : decode cX9_write 29 = .ok (.aload_n 0, 1) := by decide +kernel
theorem dX9_write_30 : decode cX9_write 30 = .ok (.iload_n 1, 1) := by decide +kernel
theorem dX9_write_31 : decode cX9_write 31 = .ok (.invokevirtual 198, 3) := by decide +kernel
theorem dX9_write_34 : decode cX9_write 34 = .ok (.istore_n 3, 1) := by decide +kernel
theorem dX9_write_35 : decode cX9_write 35 = .ok (.iload_n 3, 1) := by decide +kernel
theorem dX9_write_36 : decode cX9_write 36 = .ok (.ifCond .le 22, 3) := by decide +kernel
theorem dX9_write_39 : decode cX9_write 39 = .ok (.aload_n 0, 1) := by decide +kernel
theorem dX9_write_40 : decode cX9_write 40 = .ok (.dup, 1) := by decide +kernel
theorem dX9_write_41 : decode cX9_write 41 = .ok (.getfield 201, 3) := by decide +kernel
theorem dX9_write_44 : decode cX9_write 44 = .ok (.iconst 1, 1) := by decide +kernel
theorem dX9_write_45 : decode cX9_write 45 = .ok (.iadd, 1) := by decide +kernel
theorem dX9_write_46 : decode cX9_write 46 = .ok (.putfield 201, 3) := by decide +kernel
theorem dX9_write_49 : decode cX9_write 49 = .ok (.aload_n 0, 1) := by decide +kernel
theorem dX9_write_50 : decode cX9_write 50 = .ok (.iconst 0, 1) := by decide +kernel
theorem dX9_write_51 : decode cX9_write 51 = .ok (.putfield 192, 3) := by decide +kernel
theorem dX9_write_54 : decode cX9_write 54 = .ok (.iconst (-1), 1) := by decide +kernel
theorem dX9_write_55 : decode cX9_write 55 = .ok (.iload_n 3, 1) := by decide +kernel
theorem dX9_write_56 : decode cX9_write 56 = .ok (.isub, 1) := by decide +kernel
theorem dX9_write_57 : decode cX9_write 57 = .ok (.ireturn, 1) := by decide +kernel
theorem dX9_write_58 : decode cX9_write 58 = .ok (.bipush 16, 2) := by decide +kernel
theorem dX9_write_60 : decode cX9_write 60 = .ok (.aload_n 0, 1) := by decide +kernel
theorem dX9_write_61 : decode cX9_write 61 = .ok (.getfield 104, 3) := by decide +kernel
theorem dX9_write_64 : decode cX9_write 64 = .ok (.iload_n 1, 1) := by decide +kernel
theorem dX9_write_65 : decode cX9_write 65 = .ok (.iaload, 1) := by decide +kernel
theorem dX9_write_66 : decode cX9_write 66 = .ok (.imul, 1) := by decide +kernel
theorem dX9_write_67 : decode cX9_write 67 = .ok (.iload_n 2, 1) := by decide +kernel
theorem dX9_write_68 : decode cX9_write 68 = .ok (.iadd, 1) := by decide +kernel
theorem dX9_write_69 : decode cX9_write 69 = .ok (.istore 4, 2) := by decide +kernel
theorem dX9_write_71 : decode cX9_write 71 = .ok (.aload_n 0, 1) := by decide +kernel
theorem dX9_write_72 : decode cX9_write 72 = .ok (.getfield 97, 3) := by decide +kernel
theorem dX9_write_75 : decode cX9_write 75 = .ok (.iload 4, 2) := by decide +kernel
theorem dX9_write_77 : decode cX9_write 77 = .ok (.aload_n 0, 1) := by decide +kernel
theorem dX9_write_78 : decode cX9_write 78 = .ok (.getfield 192, 3) := by decide +kernel
theorem dX9_write_81 : decode cX9_write 81 = .ok (.iastore, 1) := by decide +kernel
theorem dX9_write_82 : decode cX9_write 82 = .ok (.iconst 0, 1) := by decide +kernel
theorem dX9_write_83 : decode cX9_write 83 = .ok (.istore 5, 2) := by decide +kernel
theorem dX9_write_85 : decode cX9_write 85 = .ok (.iload 5, 2) := by decide +kernel
theorem dX9_write_87 : decode cX9_write 87 = .ok (.aload_n 0, 1) := by decide +kernel
theorem dX9_write_88 : decode cX9_write 88 = .ok (.getfield 192, 3) := by decide +kernel
theorem dX9_write_91 : decode cX9_write 91 = .ok (.if_icmp .ge 29, 3) := by decide +kernel
theorem dX9_write_94 : decode cX9_write 94 = .ok (.aload_n 0, 1) := by decide +kernel
theorem dX9_write_95 : decode cX9_write 95 = .ok (.getfield 94, 3) := by decide +kernel
theorem dX9_write_98 : decode cX9_write 98 = .ok (.bipush 12, 2) := by decide +kernel
theorem dX9_write_100 : decode cX9_write 100 = .ok (.iload 4, 2) := by decide +kernel
theorem dX9_write_102 : decode cX9_write 102 = .ok (.imul, 1) := by decide +kernel
theorem dX9_write_103 : decode cX9_write 103 = .ok (.iload 5, 2) := by decide +kernel
theorem dX9_write_105 : decode cX9_write 105 = .ok (.iadd, 1) := by decide +kernel
theorem dX9_write_106 : decode cX9_write 106 = .ok (.aload_n 0, 1) := by decide +kernel
theorem dX9_write_107 : decode cX9_write 107 = .ok (.getfield 107, 3) := by decide +kernel
theorem dX9_write_110 : decode cX9_write 110 = .ok (.iload 5, 2) := by decide +kernel
theorem dX9_write_112 : decode cX9_write 112 = .ok (.iaload, 1) := by decide +kernel
theorem dX9_write_113 : decode cX9_write 113 = .ok (.iastore, 1) := by decide +kernel
theorem dX9_write_114 : decode cX9_write 114 = .ok (.iinc 5 1, 3) := by decide +kernel
theorem dX9_write_117 : decode cX9_write 117 = .ok (.goto (-32), 3) := by decide +kernel
theorem dX9_write_120 : decode cX9_write 120 = .ok (.aload_n 0, 1) := by decide +kernel
theorem dX9_write_121 : decode cX9_write 121 = .ok (.iconst 0, 1) := by decide +kernel
theorem dX9_write_122 : decode cX9_write 122 = .ok (.putfield 192, 3) := by decide +kernel
theorem dX9_write_125 : decode cX9_write 125 = .ok (.aload_n 0, 1) := by decide +kernel
theorem dX9_write_126 : decode cX9_write 126 = .ok (.iload_n 1, 1) := by decide +kernel
theorem dX9_write_127 : decode cX9_write 127 = .ok (.invokevirtual 204, 3) := by decide +kernel
theorem dX9_write_130 : decode cX9_write 130 = .ok (.iconst 1, 1) := by decide +kernel
theorem dX9_write_131 : decode cX9_write 131 = .ok (.ireturn, 1) := by decide +kernel
set_option maxRecDepth 20000 in
theorem ggX9_read_X9_isIn : GoodIn wsX9_read wsX9_isIn := goodIn_r _ [10] (by decide +kernel) (by decide +kernel)
set_option maxRecDepth 20000 in
theorem gX9_read_X9_isIn : GoodIn wsX9_read (va_wsS RX9 195 yX9_isIn wsX9_isIn) := goodIn_app (goodIn_of _ (by decide +kernel)) ggX9_read_X9_isIn
set_option maxRecDepth 20000 in
theorem ggX9_read_X9_check : GoodIn wsX9_read wsX9_check := goodIn_r _ [14, 2, 15, 16, 17, 18, 19, 20, 9, 21, 22, 23, 24, 25, 26, 27, 28, 29, 30, 31, 32, 33, 34, 35, 36, 37, 38, 39, 40, 41, 42, 43, 44, 45, 46, 47, 48, 49, 50, 51, 52, 53, 54, 55, 56, 57, 58, 59, 60, 61, 62, 63, 64, 65, 66, 67, 3, 6, 68, 69, 70, 71, 85, 86, 87, 88, 89, 90, 91, 92, 93, 94, 95, 96, 97, 98, 99, 100, 101, 102, 103, 104, 105, 106, 107] (by decide +kernel) (by decide +kernel)
set_option maxRecDepth 20000 in
theorem gX9_read_X9_check : GoodIn wsX9_read (wsV RX9 198 RX9 yX9_check wsX9_check) := goodIn_app (goodIn_of _ (by decide +kernel)) ggX9_read_X9_check
set_option maxRecDepth 20000 in
theorem ggX9_read_X9_advance : GoodIn wsX9_read wsX9_advance := goodIn_r _ [75, 2, 16, 15, 76, 68, 69, 70, 9, 71, 25, 26, 27, 58, 59, 60, 61, 62, 63, 64, 65, 66, 67, 32, 3, 6, 17, 24, 38, 39, 40, 41, 42, 43, 44, 45, 46, 47, 48, 49, 50, 51, 52, 53, 54, 55, 56, 57, 77, 78, 79, 80, 22, 23, 28, 29, 30, 31, 33, 34, 35, 36, 37, 81, 82, 83, 84, 85, 86, 87, 88, 89, 90, 91, 92, 93, 94, 95, 96, 97, 98, 99, 100, 101, 102, 103, 104, 105, 106, 107] (by decide +kernel) (by decide +kernel)
set_option maxRecDepth 20000 in
theorem gX9_read_X9_advance : GoodIn wsX9_read (wsV RX9 204 RX9 yX9_advance wsX9_advance) := goodIn_app (goodIn_of _ (by decide +kernel)) ggX9_read_X9_advance
theorem dX9_read_0 : decode cX9_read 0 = .ok (.iload_n 1, 1) := by decide +kernel
theorem dX9_read_1 : decode cX9_read 1 = .ok (.iconst 4, 1) := by decide +kernel
theorem dX9_read_2 : decode cX9_read 2 = .ok (.invokestatic 195, 3) := by decide +kernel
theorem dX9_read_5 : decode cX9_read 5 = .ok (.ifCond .eq 12, 3) := by decide +kernel
theorem dX9_read_8 : decode cX9_read 8 = .ok (.iload_n 2, 1) := by decide +kernel
theorem dX9_read_9 : decode cX9_read 9 = .ok (.bipush 16, 2) := by decide +kernel
theorem dX9_read_11 : decode cX9_read 11 = .ok (.invokestatic 195, 3) := by decide +kernel
theorem dX9_read_14 : decode cX9_read 14 = .ok (.ifCond .ne 6, 3) := by decide +kernel
theorem dX9_read_17 : decode cX9_read 17 = .ok (.bipush (-9), 2) := by decide +kernel
theorem dX9_read_19 : decode cX9_read 19 = .ok (.ireturn, 1) := by decide +kernel
theorem dX9_read_20 : decode cX9_read 20 = .ok (.aload_n 0, 1) := by decide +kernel
theorem dX9_read_21 : decode cX9_read 21 = .ok (.iload_n 1, 1) := by decide +kernel
theorem dX9_read_22 : decode cX9_read 22 = .ok (.invokevirtual 198, 3) := by decide +kernel
theorem dX9_read_25 : decode cX9_read 25 = .ok (.istore_n 3, 1) := by decide +kernel
theorem dX9_read_26 : decode cX9_read 26 = .ok (.iload_n 3, 1) := by decide +kernel
theorem dX9_read_27 : decode cX9_read 27 = .ok (.ifCond .le 17, 3) := by decide +kernel
theorem dX9_read_30 : decode cX9_read 30 = .ok (.aload_n 0, 1) := by decide +kernel
theorem dX9_read_31 : decode cX9_read 31 = .ok (.dup, 1) := by decide +kernel
theorem dX9_read_32 : decode cX9_read 32 = .ok (.getfield 201, 3) := by decide +kernel
theorem dX9_read_35 : decode cX9_read 35 = .ok (.iconst 1, 1) := by decide +kernel
theorem dX9_read_36 : decode cX9_read 36 = .ok (.iadd, 1) := by decide +kernel
theorem dX9_read_37 : decode cX9_read 37 = .ok (.putfield 201, 3) := by decide +kernel
theorem dX9_read_40 : decode cX9_read 40 = .ok (.iconst (-1), 1) := by decide +kernel
theorem dX9_read_41 : decode cX9_read 41 = .ok (.iload_n 3, 1) := by decide +kernel
theorem dX9_read_42 : decode cX9_read 42 = .ok (.isub, 1) := by decide +kernel
theorem dX9_read_43 : decode cX9_read 43 = .ok (.ireturn, 1) := by decide +kernel
theorem dX9_read_44 : decode cX9_read 44 = .ok (.bipush 16, 2) := by decide +kernel
theorem dX9_read_46 : decode cX9_read 46 = .ok (.aload_n 0, 1) := by decide +kernel
theorem dX9_read_47 : decode cX9_read 47 = .ok (.getfield 104, 3) := by decide +kernel
theorem dX9_read_50 : decode cX9_read 50 = .ok (.iload_n 1, 1) := by decide +kernel
theorem dX9_read_51 : decode cX9_read 51 = .ok (.iaload, 1) := by decide +kernel
theorem dX9_read_52 : decode cX9_read 52 = .ok (.imul, 1) := by decide +kernel
theorem dX9_read_53 : decode cX9_read 53 = .ok (.iload_n 2, 1) := by decide +kernel
theorem dX9_read_54 : decode cX9_read 54 = .ok (.iadd, 1) := by decide +kernel
theorem dX9_read_55 : decode cX9_read 55 = .ok (.istore 4, 2) := by decide +kernel
theorem dX9_read_57 : decode cX9_read 57 = .ok (.aload_n 0, 1) := by decide +kernel
theorem dX9_read_58 : decode cX9_read 58 = .ok (.aload_n 0, 1) := by decide +kernel
theorem dX9_read_59 : decode cX9_read 59 = .ok (.getfield 97, 3) := by decide +kernel
theorem dX9_read_62 : decode cX9_read 62 = .ok (.iload 4, 2) := by decide +kernel
theorem dX9_read_64 : decode cX9_read 64 = .ok (.iaload, 1) := by decide +kernel
theorem dX9_read_65 : decode cX9_read 65 = .ok (.putfield 207, 3) := by decide +kernel
theorem dX9_read_68 : decode cX9_read 68 = .ok (.iconst 0, 1) := by decide +kernel
theorem dX9_read_69 : decode cX9_read 69 = .ok (.istore 5, 2) := by decide +kernel
theorem dX9_read_71 : decode cX9_read 71 = .ok (.iload 5, 2) := by decide +kernel
theorem dX9_read_73 : decode cX9_read 73 = .ok (.aload_n 0, 1) := by decide +kernel
theorem dX9_read_74 : decode cX9_read 74 = .ok (.getfield 207, 3) := by decide +kernel
theorem dX9_read_77 : decode cX9_read 77 = .ok (.if_icmp .ge 29, 3) := by decide +kernel
theorem dX9_read_80 : decode cX9_read 80 = .ok (.aload_n 0, 1) := by decide +kernel
theorem dX9_read_81 : decode cX9_read 81 = .ok (.getfield 110, 3) := by decide +kernel
theorem dX9_read_84 : decode cX9_read 84 = .ok (.iload 5, 2) := by decide +kernel
theorem dX9_read_86 : decode cX9_read 86 = .ok (.aload_n 0, 1) := by decide +kernel
theorem dX9_read_87 : decode cX9_read 87 = .ok (.getfield 94, 3) := by decide +kernel
theorem dX9_read_90 : decode cX9_read 90 = .ok (.bipush 12, 2) := by decide +kernel
theorem dX9_read_92 : decode cX9_read 92 = .ok (.iload 4, 2) := by decide +kernel
theorem dX9_read_94 : decode cX9_read 94 = .ok (.imul, 1) := by decide +kernel
theorem dX9_read_95 : decode cX9_read 95 = .ok (.iload 5, 2) := by decide +kernel
theorem dX9_read_97 : decode cX9_read 97 = .ok (.iadd, 1) := by decide +kernel
theorem dX9_read_98 : decode cX9_read 98 = .ok (.iaload, 1) := by decide +kernel
theorem dX9_read_99 : decode cX9_read 99 = .ok (.iastore, 1) := by decide +kernel
theorem dX9_read_100 : decode cX9_read 100 = .ok (.iinc 5 1, 3) := by decide +kernel
theorem dX9_read_103 : decode cX9_read 103 = .ok (.goto (-32), 3) := by decide +kernel
theorem dX9_read_106 : decode cX9_read 106 = .ok (.aload_n 0, 1) := by decide +kernel
theorem dX9_read_107 : decode cX9_read 107 = .ok (.iload_n 1, 1) := by decide +kernel
theorem dX9_read_108 : decode cX9_read 108 = .ok (.invokevirtual 204, 3) := by decide +kernel
theorem dX9_read_111 : decode cX9_read 111 = .ok (.aload_n 0, 1) := by decide +kernel
theorem dX9_read_112 : decode cX9_read 112 = .ok (.getfield 207, 3) := by decide +kernel
theorem dX9_read_115 : decode cX9_read 115 = .ok (.ireturn, 1) := by decide +kernel
set_option maxRecDepth 20000 in
theorem ggX9_got_X9_isIn : GoodIn wsX9_got wsX9_isIn := goodIn_r _ [6] (by decide +kernel) (by decide +kernel)
set_option maxRecDepth 20000 in
theorem gX9_got_X9_isIn : GoodIn wsX9_got (va_wsS RX9 195 yX9_isIn wsX9_isIn) := goodIn_app (goodIn_of _ (by decide +kernel)) ggX9_got_X9_isIn
theorem dX9_got_0 : decode cX9_got 0 = .ok (.iload_n 1, 1) := by decide +kernel
theorem dX9_got_1 : decode cX9_got 1 = .ok (.aload_n 0, 1) := by decide +kernel
theorem dX9_got_2 : decode cX9_got 2 = .ok (.getfield 207, 3) := by decide +kernel
theorem dX9_got_5 : decode cX9_got 5 = .ok (.invokestatic 195, 3) := by decide +kernel
theorem dX9_got_8 : decode cX9_got 8 = .ok (.ifCond .eq 12, 3) := by decide +kernel
theorem dX9_got_11 : decode cX9_got 11 = .ok (.aload_n 0, 1) := by decide +kernel
theorem dX9_got_12 : decode cX9_got 12 = .ok (.getfield 110, 3) := by decide +kernel
theorem dX9_got_15 : decode cX9_got 15 = .ok (.iload_n 1, 1) := by decide +kernel
theorem dX9_got_16 : decode cX9_got 16 = .ok (.iaload, 1) := by decide +kernel
theorem dX9_got_17 : decode cX9_got 17 = .ok (.goto 4, 3) := by decide +kernel
theorem dX9_got_20 : decode cX9_got 20 = .ok (.iconst (-1), 1) := by decide +kernel
theorem dX9_got_21 : decode cX9_got 21 = .ok (.ireturn, 1) := by decide +kernel
set_option maxRecDepth 20000 in
theorem ggX9_split_X9_isIn : GoodIn wsX9_split wsX9_isIn := goodIn_r _ [8] (by decide +kernel) (by decide +kernel)
set_option maxRecDepth 20000 in
theorem gX9_split_X9_isIn : GoodIn wsX9_split (va_wsS RX9 195 yX9_isIn wsX9_isIn) := goodIn_app (goodIn_of _ (by decide +kernel)) ggX9_split_X9_isIn
theorem dX9_split_0 : decode cX9_split 0 = .ok (.iload_n 1, 1) := by decide +kernel
theorem dX9_split_1 : decode cX9_split 1 = .ok (.aload_n 0, 1) := by decide +kernel
theorem dX9_split_2 : decode cX9_split 2 = .ok (.getfield 100, 3) := by decide +kernel
theorem dX9_split_5 : decode cX9_split 5 = .ok (.invokestatic 195, 3) := by decide +kernel
theorem dX9_split_8 : decode cX9_split 8 = .ok (.ifCond .eq 12, 3) := by decide +kernel
theorem dX9_split_11 : decode cX9_split 11 = .ok (.aload_n 0, 1) := by decide +kernel
theorem dX9_split_12 : decode cX9_split 12 = .ok (.getfield 100, 3) := by decide +kernel
theorem dX9_split_15 : decode cX9_split 15 = .ok (.bipush 6, 2) := by decide +kernel
theorem dX9_split_17 : decode cX9_split 17 = .ok (.if_icmp .ne 5, 3) := by decide +kernel
theorem dX9_split_20 : decode cX9_split 20 = .ok (.iconst (-1), 1) := by decide +kernel
theorem dX9_split_21 : decode cX9_split 21 = .ok (.ireturn, 1) := by decide +kernel
theorem dX9_split_22 : decode cX9_split 22 = .ok (.iconst 0, 1) := by decide +kernel
theorem dX9_split_23 : decode cX9_split 23 = .ok (.istore_n 2, 1) := by decide +kernel
theorem dX9_split_24 : decode cX9_split 24 = .ok (.iload_n 2, 1) := by decide +kernel
theorem dX9_split_25 : decode cX9_split 25 = .ok (.sipush 336, 3) := by decide +kernel
theorem dX9_split_28 : decode cX9_split 28 = .ok (.if_icmp .ge 36, 3) := by decide +kernel
theorem dX9_split_31 : decode cX9_split 31 = .ok (.aload_n 0, 1) := by decide +kernel
theorem dX9_split_32 : decode cX9_split 32 = .ok (.getfield 88, 3) := by decide +kernel
theorem dX9_split_35 : decode cX9_split 35 = .ok (.sipush 336, 3) := by decide +kernel
