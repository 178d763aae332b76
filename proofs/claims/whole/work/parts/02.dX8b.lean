theorem dX8_statement_65 : decode cX8_statement 65 = .ok (.iconst (-1), 1) := by decide +kernel
theorem dX8_statement_66 : decode cX8_statement 66 = .ok (.ireturn, 1) := by decide +kernel
set_option maxRecDepth 20000 in
theorem ggX8_seen_X8_isClient : GoodIn wsX8_seen wsX8_isClient := goodIn_r _ [5] (by decide +kernel) (by decide +kernel)
set_option maxRecDepth 20000 in
theorem gX8_seen_X8_isClient : GoodIn wsX8_seen (va_wsS RX8 108 yX8_isClient wsX8_isClient) := goodIn_app (goodIn_of _ (by decide +kernel)) ggX8_seen_X8_isClient
set_option maxRecDepth 20000 in
theorem ggX8_seen_X5_countOf : GoodIn wsX8_seen wsX5_countOf := goodIn_r _ [10, 11, 26] (by decide +kernel) (by decide +kernel)
set_option maxRecDepth 20000 in
theorem gX8_seen_X5_countOf : GoodIn wsX8_seen (wsV RX8 180 RX5 yX5_countOf wsX5_countOf) := goodIn_app (goodIn_of _ (by decide +kernel)) ggX8_seen_X5_countOf
theorem dX8_seen_0 : decode cX8_seen 0 = .ok (.iload_n 1, 1) := by decide +kernel
theorem dX8_seen_1 : decode cX8_seen 1 = .ok (.invokestatic 108, 3) := by decide +kernel
theorem dX8_seen_4 : decode cX8_seen 4 = .ok (.ifCond .eq 24, 3) := by decide +kernel
theorem dX8_seen_7 : decode cX8_seen 7 = .ok (.iload_n 2, 1) := by decide +kernel
theorem dX8_seen_8 : decode cX8_seen 8 = .ok (.invokestatic 108, 3) := by decide +kernel
theorem dX8_seen_11 : decode cX8_seen 11 = .ok (.ifCond .eq 17, 3) := by decide +kernel
theorem dX8_seen_14 : decode cX8_seen 14 = .ok (.aload_n 0, 1) := by decide +kernel
theorem dX8_seen_15 : decode cX8_seen 15 = .ok (.getfield 36, 3) := by decide +kernel
theorem dX8_seen_18 : decode cX8_seen 18 = .ok (.iload_n 1, 1) := by decide +kernel
theorem dX8_seen_19 : decode cX8_seen 19 = .ok (.aaload, 1) := by decide +kernel
theorem dX8_seen_20 : decode cX8_seen 20 = .ok (.iload_n 2, 1) := by decide +kernel
theorem dX8_seen_21 : decode cX8_seen 21 = .ok (.invokevirtual 180, 3) := by decide +kernel
theorem dX8_seen_24 : decode cX8_seen 24 = .ok (.l2i, 1) := by decide +kernel
theorem dX8_seen_25 : decode cX8_seen 25 = .ok (.goto 4, 3) := by decide +kernel
theorem dX8_seen_28 : decode cX8_seen 28 = .ok (.iconst (-1), 1) := by decide +kernel
theorem dX8_seen_29 : decode cX8_seen 29 = .ok (.ireturn, 1) := by decide +kernel
set_option maxRecDepth 20000 in
theorem ggX8_digest_X4_start : GoodIn wsX8_digest wsX4_start := goodIn_r _ [10, 11, 12, 13, 14, 15, 16, 17, 18, 71, 72, 73, 74] (by decide +kernel) (by decide +kernel)
set_option maxRecDepth 20000 in
theorem gX8_digest_X4_start : GoodIn wsX8_digest (wsV RX8 184 RX4 yX4_start wsX4_start) := goodIn_app (goodIn_of _ (by decide +kernel)) ggX8_digest_X4_start
set_option maxRecDepth 20000 in
theorem ggX8_digest_X4_takeRow : GoodIn wsX8_digest wsX4_takeRow := goodIn_r _ [22, 23, 24, 25, 9, 26, 27, 17, 18, 28, 29, 30, 31, 32, 33, 34, 35, 12, 36, 71, 72, 73, 74] (by decide +kernel) (by decide +kernel)
set_option maxRecDepth 20000 in
theorem gX8_digest_X4_takeRow : GoodIn wsX8_digest (wsV RX8 187 RX4 yX4_takeRow wsX4_takeRow) := goodIn_app (goodIn_of _ (by decide +kernel)) ggX8_digest_X4_takeRow
set_option maxRecDepth 20000 in
theorem ggX8_digest_X4_finish : GoodIn wsX8_digest wsX4_finish := goodIn_r _ [40, 41, 18, 17, 12, 23, 24, 25, 9, 26, 27, 28, 29, 30, 31, 32, 33, 34, 35, 36, 71, 72, 73, 74] (by decide +kernel) (by decide +kernel)
set_option maxRecDepth 20000 in
theorem gX8_digest_X4_finish : GoodIn wsX8_digest (wsV RX8 191 RX4 yX4_finish wsX4_finish) := goodIn_app (goodIn_of _ (by decide +kernel)) ggX8_digest_X4_finish
set_option maxRecDepth 20000 in
theorem ggX8_digest_X2_make : GoodIn wsX8_digest wsX2_make := goodIn_r _ [46, 47, 48, 49, 50, 51, 45, 52, 53, 7, 8, 9, 10, 11, 12, 13, 14, 15, 16, 17, 18, 54, 24, 25, 26, 27, 28, 29, 30, 31, 32, 33, 34, 35, 36, 55, 20, 21, 22, 23, 56, 38, 39, 40, 41, 75, 76, 71, 72, 73, 74] (by decide +kernel) (by decide +kernel)
set_option maxRecDepth 20000 in
theorem gX8_digest_X2_make : GoodIn wsX8_digest (wsV RX8 195 RX2 yX2_make wsX2_make) := goodIn_app (goodIn_of _ (by decide +kernel)) ggX8_digest_X2_make
theorem dX8_digest_0 : decode cX8_digest 0 = .ok (.iload_n 1, 1) := by decide +kernel
theorem dX8_digest_1 : decode cX8_digest 1 = .ok (.ifCond .lt 18, 3) := by decide +kernel
theorem dX8_digest_4 : decode cX8_digest 4 = .ok (.iload_n 1, 1) := by decide +kernel
theorem dX8_digest_5 : decode cX8_digest 5 = .ok (.iconst 1, 1) := by decide +kernel
theorem dX8_digest_6 : decode cX8_digest 6 = .ok (.if_icmp .gt 13, 3) := by decide +kernel
theorem dX8_digest_9 : decode cX8_digest 9 = .ok (.iload_n 2, 1) := by decide +kernel
theorem dX8_digest_10 : decode cX8_digest 10 = .ok (.ifCond .lt 9, 3) := by decide +kernel
theorem dX8_digest_13 : decode cX8_digest 13 = .ok (.iload_n 2, 1) := by decide +kernel
theorem dX8_digest_14 : decode cX8_digest 14 = .ok (.bipush 32, 2) := by decide +kernel
theorem dX8_digest_16 : decode cX8_digest 16 = .ok (.if_icmp .lt 5, 3) := by decide +kernel
theorem dX8_digest_19 : decode cX8_digest 19 = .ok (.iconst (-1), 1) := by decide +kernel
theorem dX8_digest_20 : decode cX8_digest 20 = .ok (.ireturn, 1) := by decide +kernel
theorem dX8_digest_21 : decode cX8_digest 21 = .ok (.iload_n 1, 1) := by decide +kernel
theorem dX8_digest_22 : decode cX8_digest 22 = .ok (.ifCond .ne 41, 3) := by decide +kernel
theorem dX8_digest_25 : decode cX8_digest 25 = .ok (.aload_n 0, 1) := by decide +kernel
theorem dX8_digest_26 : decode cX8_digest 26 = .ok (.getfield 10, 3) := by decide +kernel
theorem dX8_digest_29 : decode cX8_digest 29 = .ok (.invokevirtual 184, 3) := by decide +kernel
theorem dX8_digest_32 : decode cX8_digest 32 = .ok (.aload_n 0, 1) := by decide +kernel
theorem dX8_digest_33 : decode cX8_digest 33 = .ok (.getfield 10, 3) := by decide +kernel
theorem dX8_digest_36 : decode cX8_digest 36 = .ok (.aload_n 0, 1) := by decide +kernel
theorem dX8_digest_37 : decode cX8_digest 37 = .ok (.getfield 43, 3) := by decide +kernel
theorem dX8_digest_40 : decode cX8_digest 40 = .ok (.iconst 0, 1) := by decide +kernel
theorem dX8_digest_41 : decode cX8_digest 41 = .ok (.aload_n 0, 1) := by decide +kernel
theorem dX8_digest_42 : decode cX8_digest 42 = .ok (.getfield 46, 3) := by decide +kernel
theorem dX8_digest_45 : decode cX8_digest 45 = .ok (.invokevirtual 187, 3) := by decide +kernel
theorem dX8_digest_48 : decode cX8_digest 48 = .ok (.aload_n 0, 1) := by decide +kernel
theorem dX8_digest_49 : decode cX8_digest 49 = .ok (.getfield 10, 3) := by decide +kernel
theorem dX8_digest_52 : decode cX8_digest 52 = .ok (.aload_n 0, 1) := by decide +kernel
theorem dX8_digest_53 : decode cX8_digest 53 = .ok (.getfield 23, 3) := by decide +kernel
theorem dX8_digest_56 : decode cX8_digest 56 = .ok (.iconst 0, 1) := by decide +kernel
theorem dX8_digest_57 : decode cX8_digest 57 = .ok (.invokevirtual 191, 3) := by decide +kernel
theorem dX8_digest_60 : decode cX8_digest 60 = .ok (.goto 23, 3) := by decide +kernel
theorem dX8_digest_63 : decode cX8_digest 63 = .ok (.aload_n 0, 1) := by decide +kernel
theorem dX8_digest_64 : decode cX8_digest 64 = .ok (.getfield 19, 3) := by decide +kernel
theorem dX8_digest_67 : decode cX8_digest 67 = .ok (.aload_n 0, 1) := by decide +kernel
theorem dX8_digest_68 : decode cX8_digest 68 = .ok (.getfield 43, 3) := by decide +kernel
theorem dX8_digest_71 : decode cX8_digest 71 = .ok (.aload_n 0, 1) := by decide +kernel
theorem dX8_digest_72 : decode cX8_digest 72 = .ok (.getfield 46, 3) := by decide +kernel
theorem dX8_digest_75 : decode cX8_digest 75 = .ok (.aload_n 0, 1) := by decide +kernel
theorem dX8_digest_76 : decode cX8_digest 76 = .ok (.getfield 23, 3) := by decide +kernel
theorem dX8_digest_79 : decode cX8_digest 79 = .ok (.iconst 0, 1) := by decide +kernel
theorem dX8_digest_80 : decode cX8_digest 80 = .ok (.invokevirtual 195, 3) := by decide +kernel
theorem dX8_digest_83 : decode cX8_digest 83 = .ok (.aload_n 0, 1) := by decide +kernel
theorem dX8_digest_84 : decode cX8_digest 84 = .ok (.getfield 23, 3) := by decide +kernel
theorem dX8_digest_87 : decode cX8_digest 87 = .ok (.iload_n 2, 1) := by decide +kernel
theorem dX8_digest_88 : decode cX8_digest 88 = .ok (.iaload, 1) := by decide +kernel
theorem dX8_digest_89 : decode cX8_digest 89 = .ok (.ireturn, 1) := by decide +kernel
set_option maxRecDepth 20000 in
theorem ggX8_plain_X1_isAnsweredPlainly : GoodIn wsX8_plain wsX1_isAnsweredPlainly := goodIn_r _ [8, 9, 10, 11, 12, 13, 14, 15, 16, 17, 18, 19, 20, 21, 22, 23, 24, 25, 26, 27, 28, 29, 30, 31, 32, 33, 34, 35, 36, 37, 38, 39, 40, 41, 42, 43, 44, 45, 46, 47, 48, 49, 50, 51, 52, 53, 54, 55, 56, 57, 58, 59, 60, 61, 62, 63, 64, 65, 66, 67, 68, 69, 70, 71, 72, 73, 74, 75, 76, 77, 105, 106, 107, 108, 109, 110, 111, 112, 113, 114, 115, 116, 117, 118] (by decide +kernel) (by decide +kernel)
set_option maxRecDepth 20000 in
theorem gX8_plain_X1_isAnsweredPlainly : GoodIn wsX8_plain (wsV RX8 199 RX1 yX1_isAnsweredPlainly wsX1_isAnsweredPlainly) := goodIn_app (goodIn_of _ (by decide +kernel)) ggX8_plain_X1_isAnsweredPlainly
set_option maxRecDepth 20000 in
theorem ggX8_plain_X5_isInLineWith : GoodIn wsX8_plain wsX5_isInLineWith := goodIn_r _ [81, 82, 83, 84, 59, 85, 86, 57, 58, 60, 61, 118] (by decide +kernel) (by decide +kernel)
set_option maxRecDepth 20000 in
theorem gX8_plain_X5_isInLineWith : GoodIn wsX8_plain (wsV RX8 176 RX5 yX5_isInLineWith wsX5_isInLineWith) := goodIn_app (goodIn_of _ (by decide +kernel)) ggX8_plain_X5_isInLineWith
set_option maxRecDepth 20000 in
theorem ggX8_plain_X1_oneBeginsTheOther : GoodIn wsX8_plain wsX1_oneBeginsTheOther := goodIn_r _ [90, 10, 11, 26, 27, 28, 29, 30, 31, 32, 33, 34, 35, 36, 37, 38, 39, 40, 41, 42, 43, 44, 45, 46, 47, 48, 49, 50, 51, 52, 53, 54, 55, 56, 57, 58, 59, 60, 61, 105, 106, 107, 115, 116, 117, 108, 109, 110, 111, 112, 118] (by decide +kernel) (by decide +kernel)
set_option maxRecDepth 20000 in
theorem gX8_plain_X1_oneBeginsTheOther : GoodIn wsX8_plain (wsV RX8 203 RX1 yX1_oneBeginsTheOther wsX1_oneBeginsTheOther) := goodIn_app (goodIn_of _ (by decide +kernel)) ggX8_plain_X1_oneBeginsTheOther
theorem dX8_plain_0 : decode cX8_plain 0 = .ok (.aload_n 0, 1) := by decide +kernel
theorem dX8_plain_1 : decode cX8_plain 1 = .ok (.getfield 63, 3) := by decide +kernel
theorem dX8_plain_4 : decode cX8_plain 4 = .ok (.ifCond .eq 5, 3) := by decide +kernel
theorem dX8_plain_7 : decode cX8_plain 7 = .ok (.iconst 1, 1) := by decide +kernel
theorem dX8_plain_8 : decode cX8_plain 8 = .ok (.ireturn, 1) := by decide +kernel
theorem dX8_plain_9 : decode cX8_plain 9 = .ok (.iconst 0, 1) := by decide +kernel
theorem dX8_plain_10 : decode cX8_plain 10 = .ok (.istore_n 1, 1) := by decide +kernel
theorem dX8_plain_11 : decode cX8_plain 11 = .ok (.iload_n 1, 1) := by decide +kernel
theorem dX8_plain_12 : decode cX8_plain 12 = .ok (.iconst 4, 1) := by decide +kernel
theorem dX8_plain_13 : decode cX8_plain 13 = .ok (.if_icmp .ge 85, 3) := by decide +kernel
theorem dX8_plain_16 : decode cX8_plain 16 = .ok (.aload_n 0, 1) := by decide +kernel
theorem dX8_plain_17 : decode cX8_plain 17 = .ok (.getfield 59, 3) := by decide +kernel
theorem dX8_plain_20 : decode cX8_plain 20 = .ok (.iload_n 1, 1) := by decide +kernel
theorem dX8_plain_21 : decode cX8_plain 21 = .ok (.aload_n 0, 1) := by decide +kernel
theorem dX8_plain_22 : decode cX8_plain 22 = .ok (.getfield 36, 3) := by decide +kernel
theorem dX8_plain_25 : decode cX8_plain 25 = .ok (.iload_n 1, 1) := by decide +kernel
theorem dX8_plain_26 : decode cX8_plain 26 = .ok (.aaload, 1) := by decide +kernel
theorem dX8_plain_27 : decode cX8_plain 27 = .ok (.invokevirtual 199, 3) := by decide +kernel
theorem dX8_plain_30 : decode cX8_plain 30 = .ok (.ifCond .ne 5, 3) := by decide +kernel
theorem dX8_plain_33 : decode cX8_plain 33 = .ok (.iconst 0, 1) := by decide +kernel
theorem dX8_plain_34 : decode cX8_plain 34 = .ok (.ireturn, 1) := by decide +kernel
theorem dX8_plain_35 : decode cX8_plain 35 = .ok (.iload_n 1, 1) := by decide +kernel
theorem dX8_plain_36 : decode cX8_plain 36 = .ok (.iconst 1, 1) := by decide +kernel
theorem dX8_plain_37 : decode cX8_plain 37 = .ok (.iadd, 1) := by decide +kernel
theorem dX8_plain_38 : decode cX8_plain 38 = .ok (.istore_n 2, 1) := by decide +kernel
theorem dX8_plain_39 : decode cX8_plain 39 = .ok (.iload_n 2, 1) := by decide +kernel
theorem dX8_plain_40 : decode cX8_plain 40 = .ok (.iconst 4, 1) := by decide +kernel
theorem dX8_plain_41 : decode cX8_plain 41 = .ok (.if_icmp .ge 51, 3) := by decide +kernel
theorem dX8_plain_44 : decode cX8_plain 44 = .ok (.aload_n 0, 1) := by decide +kernel
theorem dX8_plain_45 : decode cX8_plain 45 = .ok (.getfield 36, 3) := by decide +kernel
theorem dX8_plain_48 : decode cX8_plain 48 = .ok (.iload_n 1, 1) := by decide +kernel
theorem dX8_plain_49 : decode cX8_plain 49 = .ok (.aaload, 1) := by decide +kernel
theorem dX8_plain_50 : decode cX8_plain 50 = .ok (.aload_n 0, 1) := by decide +kernel
theorem dX8_plain_51 : decode cX8_plain 51 = .ok (.getfield 36, 3) := by decide +kernel
theorem dX8_plain_54 : decode cX8_plain 54 = .ok (.iload_n 2, 1) := by decide +kernel
theorem dX8_plain_55 : decode cX8_plain 55 = .ok (.aaload, 1) := by decide +kernel
theorem dX8_plain_56 : decode cX8_plain 56 = .ok (.invokevirtual 176, 3) := by decide +kernel
theorem dX8_plain_59 : decode cX8_plain 59 = .ok (.ifCond .eq 27, 3) := by decide +kernel
theorem dX8_plain_62 : decode cX8_plain 62 = .ok (.aload_n 0, 1) := by decide +kernel
theorem dX8_plain_63 : decode cX8_plain 63 = .ok (.getfield 59, 3) := by decide +kernel
theorem dX8_plain_66 : decode cX8_plain 66 = .ok (.aload_n 0, 1) := by decide +kernel
theorem dX8_plain_67 : decode cX8_plain 67 = .ok (.getfield 36, 3) := by decide +kernel
theorem dX8_plain_70 : decode cX8_plain 70 = .ok (.iload_n 1, 1) := by decide +kernel
theorem dX8_plain_71 : decode cX8_plain 71 = .ok (.aaload, 1) := by decide +kernel
theorem dX8_plain_72 : decode cX8_plain 72 = .ok (.aload_n 0, 1) := by decide +kernel
theorem dX8_plain_73 : decode cX8_plain 73 = .ok (.getfield 36, 3) := by decide +kernel
theorem dX8_plain_76 : decode cX8_plain 76 = .ok (.iload_n 2, 1) := by decide +kernel
theorem dX8_plain_77 : decode cX8_plain 77 = .ok (.aaload, 1) := by decide +kernel
theorem dX8_plain_78 : decode cX8_plain 78 = .ok (.invokevirtual 203, 3) := by decide +kernel
theorem dX8_plain_81 : decode cX8_plain 81 = .ok (.ifCond .ne 5, 3) := by decide +kernel
theorem dX8_plain_84 : decode cX8_plain 84 = .ok (.iconst 0, 1) := by decide +kernel
theorem dX8_plain_85 : decode cX8_plain 85 = .ok (.ireturn, 1) := by decide +kernel
theorem dX8_plain_86 : decode cX8_plain 86 = .ok (.iinc 2 1, 3) := by decide +kernel
theorem dX8_plain_89 : decode cX8_plain 89 = .ok (.goto (-50), 3) := by decide +kernel
theorem dX8_plain_92 : decode cX8_plain 92 = .ok (.iinc 1 1, 3) := by decide +kernel
theorem dX8_plain_95 : decode cX8_plain 95 = .ok (.goto (-84), 3) := by decide +kernel
theorem dX8_plain_98 : decode cX8_plain 98 = .ok (.iconst 1, 1) := by decide +kernel
theorem dX8_plain_99 : decode cX8_plain 99 = .ok (.ireturn, 1) := by decide +kernel
set_option maxRecDepth 20000 in
theorem ggX8_count_Jx4a65c_size_8abf5 : GoodIn wsX8_count wsJx4a65c_size_8abf5 := goodIn_r _ [10, 11, 26, 27, 28] (by decide +kernel) (by decide +kernel)
set_option maxRecDepth 20000 in
theorem gX8_count_Jx4a65c_size_8abf5 : GoodIn wsX8_count (wsV RX8 156 RJx4a65c yJx4a65c_size_8abf5 wsJx4a65c_size_8abf5) := goodIn_app (goodIn_of _ (by decide +kernel)) ggX8_count_Jx4a65c_size_8abf5
theorem dX8_count_0 : decode cX8_count 0 = .ok (.iload_n 1, 1) := by decide +kernel
theorem dX8_count_1 : decode cX8_count 1 = .ok (.tableswitch 54 0 3 #[31, 39, 44, 49], 31) := by decide +kernel
theorem dX8_count_32 : decode cX8_count 32 = .ok (.aload_n 0, 1) := by decide +kernel
theorem dX8_count_33 : decode cX8_count 33 = .ok (.getfield 30, 3) := by decide +kernel
theorem dX8_count_36 : decode cX8_count 36 = .ok (.invokevirtual 156, 3) := by decide +kernel
theorem dX8_count_39 : decode cX8_count 39 = .ok (.ireturn, 1) := by decide +kernel
theorem dX8_count_40 : decode cX8_count 40 = .ok (.aload_n 0, 1) := by decide +kernel
theorem dX8_count_41 : decode cX8_count 41 = .ok (.getfield 67, 3) := by decide +kernel
theorem dX8_count_44 : decode cX8_count 44 = .ok (.ireturn, 1) := by decide +kernel
theorem dX8_count_45 : decode cX8_count 45 = .ok (.aload_n 0, 1) := by decide +kernel
theorem dX8_count_46 : decode cX8_count 46 = .ok (.getfield 70, 3) := by decide +kernel
theorem dX8_count_49 : decode cX8_count 49 = .ok (.ireturn, 1) := by decide +kernel
theorem dX8_count_50 : decode cX8_count 50 = .ok (.aload_n 0, 1) := by decide +kernel
theorem dX8_count_51 : decode cX8_count 51 = .ok (.getfield 46, 3) := by decide +kernel
theorem dX8_count_54 : decode cX8_count 54 = .ok (.ireturn, 1) := by decide +kernel
theorem dX8_count_55 : decode cX8_count 55 = .ok (.iload_n 1, 1) := by decide +kernel
theorem dX8_count_56 : decode cX8_count 56 = .ok (.iconst 4, 1) := by decide +kernel
theorem dX8_count_57 : decode cX8_count 57 = .ok (.if_icmp .lt 20, 3) := by decide +kernel
theorem dX8_count_60 : decode cX8_count 60 = .ok (.iload_n 1, 1) := by decide +kernel
theorem dX8_count_61 : decode cX8_count 61 = .ok (.bipush 8, 2) := by decide +kernel
theorem dX8_count_63 : decode cX8_count 63 = .ok (.if_icmp .ge 14, 3) := by decide +kernel
theorem dX8_count_66 : decode cX8_count 66 = .ok (.aload_n 0, 1) := by decide +kernel
theorem dX8_count_67 : decode cX8_count 67 = .ok (.getfield 40, 3) := by decide +kernel
theorem dX8_count_70 : decode cX8_count 70 = .ok (.iload_n 1, 1) := by decide +kernel
theorem dX8_count_71 : decode cX8_count 71 = .ok (.iconst 4, 1) := by decide +kernel
theorem dX8_count_72 : decode cX8_count 72 = .ok (.isub, 1) := by decide +kernel
theorem dX8_count_73 : decode cX8_count 73 = .ok (.iaload, 1) := by decide +kernel
theorem dX8_count_74 : decode cX8_count 74 = .ok (.goto 4, 3) := by decide +kernel
theorem dX8_count_77 : decode cX8_count 77 = .ok (.iconst (-1), 1) := by decide +kernel
theorem dX8_count_78 : decode cX8_count 78 = .ok (.ireturn, 1) := by decide +kernel
set_option maxRecDepth 20000 in
theorem ggX8_isWorld_Jx4a65c_size_8abf5 : GoodIn wsX8_isWorld wsJx4a65c_size_8abf5 := goodIn_r _ [6, 7, 22, 23, 24] (by decide +kernel) (by decide +kernel)
set_option maxRecDepth 20000 in
theorem gX8_isWorld_Jx4a65c_size_8abf5 : GoodIn wsX8_isWorld (wsV RX8 156 RJx4a65c yJx4a65c_size_8abf5 wsJx4a65c_size_8abf5) := goodIn_app (goodIn_of _ (by decide +kernel)) ggX8_isWorld_Jx4a65c_size_8abf5
theorem dX8_isWorld_0 : decode cX8_isWorld 0 = .ok (.iload_n 1, 1) := by decide +kernel
theorem dX8_isWorld_1 : decode cX8_isWorld 1 = .ok (.ifCond .lt 18, 3) := by decide +kernel
theorem dX8_isWorld_4 : decode cX8_isWorld 4 = .ok (.iload_n 1, 1) := by decide +kernel
theorem dX8_isWorld_5 : decode cX8_isWorld 5 = .ok (.aload_n 0, 1) := by decide +kernel
theorem dX8_isWorld_6 : decode cX8_isWorld 6 = .ok (.getfield 30, 3) := by decide +kernel
theorem dX8_isWorld_9 : decode cX8_isWorld 9 = .ok (.invokevirtual 156, 3) := by decide +kernel
theorem dX8_isWorld_12 : decode cX8_isWorld 12 = .ok (.if_icmp .ge 7, 3) := by decide +kernel
theorem dX8_isWorld_15 : decode cX8_isWorld 15 = .ok (.iconst 1, 1) := by decide +kernel
theorem dX8_isWorld_16 : decode cX8_isWorld 16 = .ok (.goto 4, 3) := by decide +kernel
theorem dX8_isWorld_19 : decode cX8_isWorld 19 = .ok (.iconst 0, 1) := by decide +kernel
theorem dX8_isWorld_20 : decode cX8_isWorld 20 = .ok (.ireturn, 1) := by decide +kernel
theorem dX8_isClient_0 : decode cX8_isClient 0 = .ok (.iload_n 0, 1) := by decide +kernel
theorem dX8_isClient_1 : decode cX8_isClient 1 = .ok (.ifCond .lt 12, 3) := by decide +kernel
theorem dX8_isClient_4 : decode cX8_isClient 4 = .ok (.iload_n 0, 1) := by decide +kernel
theorem dX8_isClient_5 : decode cX8_isClient 5 = .ok (.iconst 4, 1) := by decide +kernel
theorem dX8_isClient_6 : decode cX8_isClient 6 = .ok (.if_icmp .ge 7, 3) := by decide +kernel
theorem dX8_isClient_9 : decode cX8_isClient 9 = .ok (.iconst 1, 1) := by decide +kernel
theorem dX8_isClient_10 : decode cX8_isClient 10 = .ok (.goto 4, 3) := by decide +kernel
theorem dX8_isClient_13 : decode cX8_isClient 13 = .ok (.iconst 0, 1) := by decide +kernel
theorem dX8_isClient_14 : decode cX8_isClient 14 = .ok (.ireturn, 1) := by decide +kernel
theorem dX8_isFile_0 : decode cX8_isFile 0 = .ok (.iload_n 0, 1) := by decide +kernel
theorem dX8_isFile_1 : decode cX8_isFile 1 = .ok (.ifCond .lt 13, 3) := by decide +kernel
theorem dX8_isFile_4 : decode cX8_isFile 4 = .ok (.iload_n 0, 1) := by decide +kernel
theorem dX8_isFile_5 : decode cX8_isFile 5 = .ok (.bipush 16, 2) := by decide +kernel
theorem dX8_isFile_7 : decode cX8_isFile 7 = .ok (.if_icmp .ge 7, 3) := by decide +kernel
theorem dX8_isFile_10 : decode cX8_isFile 10 = .ok (.iconst 1, 1) := by decide +kernel
theorem dX8_isFile_11 : decode cX8_isFile 11 = .ok (.goto 4, 3) := by decide +kernel
theorem dX8_isFile_14 : decode cX8_isFile 14 = .ok (.iconst 0, 1) := by decide +kernel
theorem dX8_isFile_15 : decode cX8_isFile 15 = .ok (.ireturn, 1) := by decide +kernel
theorem dX8_isStatementByte_0 : decode cX8_isStatementByte 0 = .ok (.iload_n 0, 1) := by decide +kernel
theorem dX8_isStatementByte_1 : decode cX8_isStatementByte 1 = .ok (.ifCond .lt 13, 3) := by decide +kernel
theorem dX8_isStatementByte_4 : decode cX8_isStatementByte 4 = .ok (.iload_n 0, 1) := by decide +kernel
theorem dX8_isStatementByte_5 : decode cX8_isStatementByte 5 = .ok (.bipush 84, 2) := by decide +kernel
theorem dX8_isStatementByte_7 : decode cX8_isStatementByte 7 = .ok (.if_icmp .ge 7, 3) := by decide +kernel
theorem dX8_isStatementByte_10 : decode cX8_isStatementByte 10 = .ok (.iconst 1, 1) := by decide +kernel
theorem dX8_isStatementByte_11 : decode cX8_isStatementByte 11 = .ok (.goto 4, 3) := by decide +kernel
theorem dX8_isStatementByte_14 : decode cX8_isStatementByte 14 = .ok (.iconst 0, 1) := by decide +kernel
theorem dX8_isStatementByte_15 : decode cX8_isStatementByte 15 = .ok (.ireturn, 1) := by decide +kernel
theorem dX8_isMask_0 : decode cX8_isMask 0 = .ok (.iload_n 0, 1) := by decide +kernel
theorem dX8_isMask_1 : decode cX8_isMask 1 = .ok (.iconst 1, 1) := by decide +kernel
theorem dX8_isMask_2 : decode cX8_isMask 2 = .ok (.if_icmp .lt 14, 3) := by decide +kernel
theorem dX8_isMask_5 : decode cX8_isMask 5 = .ok (.iload_n 0, 1) := by decide +kernel
theorem dX8_isMask_6 : decode cX8_isMask 6 = .ok (.sipush 255, 3) := by decide +kernel
theorem dX8_isMask_9 : decode cX8_isMask 9 = .ok (.if_icmp .gt 7, 3) := by decide +kernel
theorem dX8_isMask_12 : decode cX8_isMask 12 = .ok (.iconst 1, 1) := by decide +kernel
theorem dX8_isMask_13 : decode cX8_isMask 13 = .ok (.goto 4, 3) := by decide +kernel
theorem dX8_isMask_16 : decode cX8_isMask 16 = .ok (.iconst 0, 1) := by decide +kernel
theorem dX8_isMask_17 : decode cX8_isMask 17 = .ok (.ireturn, 1) := by decide +kernel
set_option maxRecDepth 20000 in
theorem ggX8_failedCheck_X8_areSigned : GoodIn wsX8_failedCheck wsX8_areSigned := goodIn_r _ [9, 1, 2, 10, 11, 12, 13, 14, 15, 16, 17, 18, 19, 20, 21, 22, 23, 24, 25, 26, 27, 28, 29, 30, 31, 32, 33, 34, 35, 36, 37, 38, 39, 40, 41, 42, 43, 44, 45, 46, 47, 48, 49, 50, 51, 52, 53, 54, 55, 56, 57, 58, 59, 60, 61, 8, 62, 94, 95, 96, 97, 98, 99, 100, 101, 102, 103, 104, 105, 106, 107, 108, 109, 110, 111, 112, 113, 114, 115, 116, 117] (by decide +kernel) (by decide +kernel)
set_option maxRecDepth 20000 in
theorem gX8_failedCheck_X8_areSigned : GoodIn wsX8_failedCheck (wsV RX8 207 RX8 yX8_areSigned wsX8_areSigned) := goodIn_app (goodIn_of _ (by decide +kernel)) ggX8_failedCheck_X8_areSigned
set_option maxRecDepth 20000 in
theorem ggX8_failedCheck_X8_sameRow : GoodIn wsX8_failedCheck wsX8_sameRow := goodIn_r _ [62] (by decide +kernel) (by decide +kernel)
set_option maxRecDepth 20000 in
theorem gX8_failedCheck_X8_sameRow : GoodIn wsX8_failedCheck (va_wsS RX8 211 yX8_sameRow wsX8_sameRow) := goodIn_app (goodIn_of _ (by decide +kernel)) ggX8_failedCheck_X8_sameRow
set_option maxRecDepth 20000 in
theorem ggX8_failedCheck_X7_isInLine : GoodIn wsX8_failedCheck wsX7_isInLine := goodIn_r _ [67, 68, 69, 70, 71, 72, 73, 74, 75, 76, 77, 78, 79, 80, 81, 82, 94, 95, 96, 97] (by decide +kernel) (by decide +kernel)
set_option maxRecDepth 20000 in
theorem gX8_failedCheck_X7_isInLine : GoodIn wsX8_failedCheck (wsV RX8 215 RX7 yX7_isInLine wsX7_isInLine) := goodIn_app (goodIn_of _ (by decide +kernel)) ggX8_failedCheck_X7_isInLine
set_option maxRecDepth 20000 in
theorem ggX8_failedCheck_X7_greatest : GoodIn wsX8_failedCheck wsX7_greatest := goodIn_r _ [86, 68, 87, 75, 76, 72, 77, 78, 79, 80, 81, 82, 94, 95, 96, 97] (by decide +kernel) (by decide +kernel)
set_option maxRecDepth 20000 in
theorem gX8_failedCheck_X7_greatest : GoodIn wsX8_failedCheck (wsV RX8 219 RX7 yX7_greatest wsX7_greatest) := goodIn_app (goodIn_of _ (by decide +kernel)) ggX8_failedCheck_X7_greatest
set_option maxRecDepth 20000 in
theorem ggX8_failedCheck_X6_hasRoot : GoodIn wsX8_failedCheck wsX6_hasRoot := goodIn_r _ [92, 93, 61, 8, 62, 118] (by decide +kernel) (by decide +kernel)
set_option maxRecDepth 20000 in
theorem gX8_failedCheck_X6_hasRoot : GoodIn wsX8_failedCheck (wsV RX8 223 RX6 yX6_hasRoot wsX6_hasRoot) := goodIn_app (goodIn_of _ (by decide +kernel)) ggX8_failedCheck_X6_hasRoot
theorem dX8_failedCheck_0 : decode cX8_failedCheck 0 = .ok (.aload_n 0, 1) := by decide +kernel
theorem dX8_failedCheck_1 : decode cX8_failedCheck 1 = .ok (.aload_n 2, 1) := by decide +kernel
theorem dX8_failedCheck_2 : decode cX8_failedCheck 2 = .ok (.invokevirtual 207, 3) := by decide +kernel
theorem dX8_failedCheck_5 : decode cX8_failedCheck 5 = .ok (.ifCond .ne 5, 3) := by decide +kernel
theorem dX8_failedCheck_8 : decode cX8_failedCheck 8 = .ok (.iconst 1, 1) := by decide +kernel
theorem dX8_failedCheck_9 : decode cX8_failedCheck 9 = .ok (.ireturn, 1) := by decide +kernel
theorem dX8_failedCheck_10 : decode cX8_failedCheck 10 = .ok (.aload_n 2, 1) := by decide +kernel
theorem dX8_failedCheck_11 : decode cX8_failedCheck 11 = .ok (.getfield 97, 3) := by decide +kernel
theorem dX8_failedCheck_14 : decode cX8_failedCheck 14 = .ok (.iload_n 1, 1) := by decide +kernel
theorem dX8_failedCheck_15 : decode cX8_failedCheck 15 = .ok (.aaload, 1) := by decide +kernel
theorem dX8_failedCheck_16 : decode cX8_failedCheck 16 = .ok (.getfield 169, 3) := by decide +kernel
theorem dX8_failedCheck_19 : decode cX8_failedCheck 19 = .ok (.iconst 0, 1) := by decide +kernel
theorem dX8_failedCheck_20 : decode cX8_failedCheck 20 = .ok (.aload_n 0, 1) := by decide +kernel
theorem dX8_failedCheck_21 : decode cX8_failedCheck 21 = .ok (.getfield 36, 3) := by decide +kernel
theorem dX8_failedCheck_24 : decode cX8_failedCheck 24 = .ok (.iload_n 1, 1) := by decide +kernel
theorem dX8_failedCheck_25 : decode cX8_failedCheck 25 = .ok (.aaload, 1) := by decide +kernel
theorem dX8_failedCheck_26 : decode cX8_failedCheck 26 = .ok (.getfield 169, 3) := by decide +kernel
theorem dX8_failedCheck_29 : decode cX8_failedCheck 29 = .ok (.iconst 0, 1) := by decide +kernel
theorem dX8_failedCheck_30 : decode cX8_failedCheck 30 = .ok (.bipush 84, 2) := by decide +kernel
theorem dX8_failedCheck_32 : decode cX8_failedCheck 32 = .ok (.invokestatic 211, 3) := by decide +kernel
theorem dX8_failedCheck_35 : decode cX8_failedCheck 35 = .ok (.ifCond .ne 5, 3) := by decide +kernel
theorem dX8_failedCheck_38 : decode cX8_failedCheck 38 = .ok (.iconst 2, 1) := by decide +kernel
theorem dX8_failedCheck_39 : decode cX8_failedCheck 39 = .ok (.ireturn, 1) := by decide +kernel
theorem dX8_failedCheck_40 : decode cX8_failedCheck 40 = .ok (.aload_n 2, 1) := by decide +kernel
theorem dX8_failedCheck_41 : decode cX8_failedCheck 41 = .ok (.invokevirtual 215, 3) := by decide +kernel
theorem dX8_failedCheck_44 : decode cX8_failedCheck 44 = .ok (.ifCond .ne 5, 3) := by decide +kernel
theorem dX8_failedCheck_47 : decode cX8_failedCheck 47 = .ok (.iconst 3, 1) := by decide +kernel
theorem dX8_failedCheck_48 : decode cX8_failedCheck 48 = .ok (.ireturn, 1) := by decide +kernel
theorem dX8_failedCheck_49 : decode cX8_failedCheck 49 = .ok (.aload_n 2, 1) := by decide +kernel
theorem dX8_failedCheck_50 : decode cX8_failedCheck 50 = .ok (.getfield 76, 3) := by decide +kernel
theorem dX8_failedCheck_53 : decode cX8_failedCheck 53 = .ok (.aload_n 2, 1) := by decide +kernel
theorem dX8_failedCheck_54 : decode cX8_failedCheck 54 = .ok (.invokevirtual 219, 3) := by decide +kernel
theorem dX8_failedCheck_57 : decode cX8_failedCheck 57 = .ok (.getfield 169, 3) := by decide +kernel
theorem dX8_failedCheck_60 : decode cX8_failedCheck 60 = .ok (.bipush 20, 2) := by decide +kernel
theorem dX8_failedCheck_62 : decode cX8_failedCheck 62 = .ok (.invokevirtual 223, 3) := by decide +kernel
theorem dX8_failedCheck_65 : decode cX8_failedCheck 65 = .ok (.ifCond .eq 7, 3) := by decide +kernel
theorem dX8_failedCheck_68 : decode cX8_failedCheck 68 = .ok (.iconst 0, 1) := by decide +kernel
theorem dX8_failedCheck_69 : decode cX8_failedCheck 69 = .ok (.goto 4, 3) := by decide +kernel
theorem dX8_failedCheck_72 : decode cX8_failedCheck 72 = .ok (.iconst 4, 1) := by decide +kernel
theorem dX8_failedCheck_73 : decode cX8_failedCheck 73 = .ok (.ireturn, 1) := by decide +kernel
set_option maxRecDepth 20000 in
theorem ggX8_areSigned_X2_make : GoodIn wsX8_areSigned wsX2_make := goodIn_r _ [9, 10, 11, 12, 13, 14, 8, 15, 16, 17, 18, 19, 20, 21, 22, 23, 24, 25, 26, 27, 28, 29, 30, 31, 32, 33, 34, 35, 36, 37, 38, 39, 40, 41, 42, 43, 44, 45, 46, 47, 48, 49, 50, 51, 52, 75, 76, 77, 78, 79, 80] (by decide +kernel) (by decide +kernel)
set_option maxRecDepth 20000 in
theorem gX8_areSigned_X2_make : GoodIn wsX8_areSigned (wsV RX8 195 RX2 yX2_make wsX2_make) := goodIn_app (goodIn_of _ (by decide +kernel)) ggX8_areSigned_X2_make
set_option maxRecDepth 20000 in
theorem ggX8_areSigned_X8_sameRow : GoodIn wsX8_areSigned wsX8_sameRow := goodIn_r _ [56] (by decide +kernel) (by decide +kernel)
set_option maxRecDepth 20000 in
theorem gX8_areSigned_X8_sameRow : GoodIn wsX8_areSigned (va_wsS RX8 211 yX8_sameRow wsX8_sameRow) := goodIn_app (goodIn_of _ (by decide +kernel)) ggX8_areSigned_X8_sameRow
theorem dX8_areSigned_0 : decode cX8_areSigned 0 = .ok (.iconst 0, 1) := by decide +kernel
theorem dX8_areSigned_1 : decode cX8_areSigned 1 = .ok (.istore_n 2, 1) := by decide +kernel
theorem dX8_areSigned_2 : decode cX8_areSigned 2 = .ok (.iload_n 2, 1) := by decide +kernel
theorem dX8_areSigned_3 : decode cX8_areSigned 3 = .ok (.iconst 4, 1) := by decide +kernel
theorem dX8_areSigned_4 : decode cX8_areSigned 4 = .ok (.if_icmp .ge 59, 3) := by decide +kernel
theorem dX8_areSigned_7 : decode cX8_areSigned 7 = .ok (.aload_n 1, 1) := by decide +kernel
theorem dX8_areSigned_8 : decode cX8_areSigned 8 = .ok (.getfield 97, 3) := by decide +kernel
theorem dX8_areSigned_11 : decode cX8_areSigned 11 = .ok (.iload_n 2, 1) := by decide +kernel
theorem dX8_areSigned_12 : decode cX8_areSigned 12 = .ok (.aaload, 1) := by decide +kernel
theorem dX8_areSigned_13 : decode cX8_areSigned 13 = .ok (.getfield 169, 3) := by decide +kernel
theorem dX8_areSigned_16 : decode cX8_areSigned 16 = .ok (.astore_n 3, 1) := by decide +kernel
theorem dX8_areSigned_17 : decode cX8_areSigned 17 = .ok (.aload_n 0, 1) := by decide +kernel
theorem dX8_areSigned_18 : decode cX8_areSigned 18 = .ok (.getfield 19, 3) := by decide +kernel
theorem dX8_areSigned_21 : decode cX8_areSigned 21 = .ok (.aload_n 3, 1) := by decide +kernel
theorem dX8_areSigned_22 : decode cX8_areSigned 22 = .ok (.bipush 52, 2) := by decide +kernel
theorem dX8_areSigned_24 : decode cX8_areSigned 24 = .ok (.aload_n 0, 1) := by decide +kernel
theorem dX8_areSigned_25 : decode cX8_areSigned 25 = .ok (.getfield 23, 3) := by decide +kernel
theorem dX8_areSigned_28 : decode cX8_areSigned 28 = .ok (.iconst 0, 1) := by decide +kernel
theorem dX8_areSigned_29 : decode cX8_areSigned 29 = .ok (.invokevirtual 195, 3) := by decide +kernel
theorem dX8_areSigned_32 : decode cX8_areSigned 32 = .ok (.aload_n 3, 1) := by decide +kernel
theorem dX8_areSigned_33 : decode cX8_areSigned 33 = .ok (.iconst 0, 1) := by decide +kernel
theorem dX8_areSigned_34 : decode cX8_areSigned 34 = .ok (.iaload, 1) := by decide +kernel
theorem dX8_areSigned_35 : decode cX8_areSigned 35 = .ok (.iload_n 2, 1) := by decide +kernel
theorem dX8_areSigned_36 : decode cX8_areSigned 36 = .ok (.if_icmp .ne 19, 3) := by decide +kernel
theorem dX8_areSigned_39 : decode cX8_areSigned 39 = .ok (.aload_n 3, 1) := by decide +kernel
theorem dX8_areSigned_40 : decode cX8_areSigned 40 = .ok (.bipush 52, 2) := by decide +kernel
theorem dX8_areSigned_42 : decode cX8_areSigned 42 = .ok (.aload_n 0, 1) := by decide +kernel
theorem dX8_areSigned_43 : decode cX8_areSigned 43 = .ok (.getfield 23, 3) := by decide +kernel
theorem dX8_areSigned_46 : decode cX8_areSigned 46 = .ok (.iconst 0, 1) := by decide +kernel
theorem dX8_areSigned_47 : decode cX8_areSigned 47 = .ok (.bipush 32, 2) := by decide +kernel
theorem dX8_areSigned_49 : decode cX8_areSigned 49 = .ok (.invokestatic 211, 3) := by decide +kernel
theorem dX8_areSigned_52 : decode cX8_areSigned 52 = .ok (.ifCond .ne 5, 3) := by decide +kernel
theorem dX8_areSigned_55 : decode cX8_areSigned 55 = .ok (.iconst 0, 1) := by decide +kernel
theorem dX8_areSigned_56 : decode cX8_areSigned 56 = .ok (.ireturn, 1) := by decide +kernel
theorem dX8_areSigned_57 : decode cX8_areSigned 57 = .ok (.iinc 2 1, 3) := by decide +kernel
theorem dX8_areSigned_60 : decode cX8_areSigned 60 = .ok (.goto (-58), 3) := by decide +kernel
theorem dX8_areSigned_63 : decode cX8_areSigned 63 = .ok (.iconst 1, 1) := by decide +kernel
theorem dX8_areSigned_64 : decode cX8_areSigned 64 = .ok (.ireturn, 1) := by decide +kernel
theorem dX8_stoppedBy_0 : decode cX8_stoppedBy 0 = .ok (.aload_n 0, 1) := by decide +kernel
theorem dX8_stoppedBy_1 : decode cX8_stoppedBy 1 = .ok (.dup, 1) := by decide +kernel
theorem dX8_stoppedBy_2 : decode cX8_stoppedBy 2 = .ok (.getfield 70, 3) := by decide +kernel
theorem dX8_stoppedBy_5 : decode cX8_stoppedBy 5 = .ok (.iconst 1, 1) := by decide +kernel
theorem dX8_stoppedBy_6 : decode cX8_stoppedBy 6 = .ok (.iadd, 1) := by decide +kernel
theorem dX8_stoppedBy_7 : decode cX8_stoppedBy 7 = .ok (.putfield 70, 3) := by decide +kernel
theorem dX8_stoppedBy_10 : decode cX8_stoppedBy 10 = .ok (.iconst (-1), 1) := by decide +kernel
theorem dX8_stoppedBy_11 : decode cX8_stoppedBy 11 = .ok (.iload_n 1, 1) := by decide +kernel
theorem dX8_stoppedBy_12 : decode cX8_stoppedBy 12 = .ok (.isub, 1) := by decide +kernel
theorem dX8_stoppedBy_13 : decode cX8_stoppedBy 13 = .ok (.ireturn, 1) := by decide +kernel
set_option maxRecDepth 20000 in
theorem ggX8_makeStatement_X7_greatest : GoodIn wsX8_makeStatement wsX7_greatest := goodIn_r _ [9, 10, 11, 12, 13, 14, 15, 16, 17, 18, 19, 20, 107, 108, 109, 110] (by decide +kernel) (by decide +kernel)
set_option maxRecDepth 20000 in
theorem gX8_makeStatement_X7_greatest : GoodIn wsX8_makeStatement (wsV RX8 219 RX7 yX7_greatest wsX7_greatest) := goodIn_app (goodIn_of _ (by decide +kernel)) ggX8_makeStatement_X7_greatest
set_option maxRecDepth 20000 in
theorem ggX8_makeStatement_X5_countOf : GoodIn wsX8_makeStatement wsX5_countOf := goodIn_r _ [19, 20, 110] (by decide +kernel) (by decide +kernel)
set_option maxRecDepth 20000 in
theorem gX8_makeStatement_X5_countOf : GoodIn wsX8_makeStatement (wsV RX8 180 RX5 yX5_countOf wsX5_countOf) := goodIn_app (goodIn_of _ (by decide +kernel)) ggX8_makeStatement_X5_countOf
set_option maxRecDepth 20000 in
theorem ggX8_makeStatement_X5_setCount : GoodIn wsX8_makeStatement wsX5_setCount := goodIn_r _ [25, 20, 110] (by decide +kernel) (by decide +kernel)
set_option maxRecDepth 20000 in
theorem gX8_makeStatement_X5_setCount : GoodIn wsX8_makeStatement (wsV RX8 227 RX5 yX5_setCount wsX5_setCount) := goodIn_app (goodIn_of _ (by decide +kernel)) ggX8_makeStatement_X5_setCount
set_option maxRecDepth 20000 in
theorem ggX8_makeStatement_X8_sign : GoodIn wsX8_makeStatement wsX8_sign := goodIn_r _ [30, 31, 32, 33, 34, 35, 36, 37, 38, 39, 40, 41, 42, 43, 44, 45, 46, 47, 48, 49, 50, 51, 52, 53, 54, 55, 56, 57, 58, 59, 60, 61, 62, 63, 64, 65, 66, 67, 68, 69, 70, 71, 72, 73, 74, 75, 76, 77, 78, 79, 80, 81, 82, 83, 84, 85, 86, 87, 110, 93, 94, 95, 96, 97, 98, 99, 100, 101, 102, 103, 104, 105, 106, 111, 112, 113, 114, 115, 116, 117] (by decide +kernel) (by decide +kernel)
set_option maxRecDepth 20000 in
theorem gX8_makeStatement_X8_sign : GoodIn wsX8_makeStatement (wsV RX8 93 RX8 yX8_sign wsX8_sign) := goodIn_app (goodIn_of _ (by decide +kernel)) ggX8_makeStatement_X8_sign
set_option maxRecDepth 20000 in
theorem ggX8_makeStatement_X5_become : GoodIn wsX8_makeStatement wsX5_become := goodIn_r _ [91, 20, 92, 40, 41, 42, 110] (by decide +kernel) (by decide +kernel)
set_option maxRecDepth 20000 in
theorem gX8_makeStatement_X5_become : GoodIn wsX8_makeStatement (wsV RX8 100 RX5 yX5_become wsX5_become) := goodIn_app (goodIn_of _ (by decide +kernel)) ggX8_makeStatement_X5_become
theorem dX8_makeStatement_0 : decode cX8_makeStatement 0 = .ok (.aload_n 0, 1) := by decide +kernel
theorem dX8_makeStatement_1 : decode cX8_makeStatement 1 = .ok (.getfield 36, 3) := by decide +kernel
theorem dX8_makeStatement_4 : decode cX8_makeStatement 4 = .ok (.iload_n 1, 1) := by decide +kernel
theorem dX8_makeStatement_5 : decode cX8_makeStatement 5 = .ok (.aaload, 1) := by decide +kernel
theorem dX8_makeStatement_6 : decode cX8_makeStatement 6 = .ok (.astore_n 3, 1) := by decide +kernel
theorem dX8_makeStatement_7 : decode cX8_makeStatement 7 = .ok (.aload_n 2, 1) := by decide +kernel
theorem dX8_makeStatement_8 : decode cX8_makeStatement 8 = .ok (.invokevirtual 219, 3) := by decide +kernel
theorem dX8_makeStatement_11 : decode cX8_makeStatement 11 = .ok (.astore 4, 2) := by decide +kernel
theorem dX8_makeStatement_13 : decode cX8_makeStatement 13 = .ok (.iconst 0, 1) := by decide +kernel
theorem dX8_makeStatement_14 : decode cX8_makeStatement 14 = .ok (.istore 5, 2) := by decide +kernel
theorem dX8_makeStatement_16 : decode cX8_makeStatement 16 = .ok (.iload 5, 2) := by decide +kernel
theorem dX8_makeStatement_18 : decode cX8_makeStatement 18 = .ok (.iconst 4, 1) := by decide +kernel
theorem dX8_makeStatement_19 : decode cX8_makeStatement 19 = .ok (.if_icmp .ge 35, 3) := by decide +kernel
theorem dX8_makeStatement_22 : decode cX8_makeStatement 22 = .ok (.aload_n 3, 1) := by decide +kernel
theorem dX8_makeStatement_23 : decode cX8_makeStatement 23 = .ok (.iload 5, 2) := by decide +kernel
theorem dX8_makeStatement_25 : decode cX8_makeStatement 25 = .ok (.aload 4, 2) := by decide +kernel
theorem dX8_makeStatement_27 : decode cX8_makeStatement 27 = .ok (.iload 5, 2) := by decide +kernel
theorem dX8_makeStatement_29 : decode cX8_makeStatement 29 = .ok (.invokevirtual 180, 3) := by decide +kernel
theorem dX8_makeStatement_32 : decode cX8_makeStatement 32 = .ok (.iload 5, 2) := by decide +kernel
theorem dX8_makeStatement_34 : decode cX8_makeStatement 34 = .ok (.iload_n 1, 1) := by decide +kernel
theorem dX8_makeStatement_35 : decode cX8_makeStatement 35 = .ok (.if_icmp .ne 7, 3) := by decide +kernel
theorem dX8_makeStatement_38 : decode cX8_makeStatement 38 = .ok (.iconst 1, 1) := by decide +kernel
theorem dX8_makeStatement_39 : decode cX8_makeStatement 39 = .ok (.goto 4, 3) := by decide +kernel
theorem dX8_makeStatement_42 : decode cX8_makeStatement 42 = .ok (.iconst 0, 1) := by decide +kernel
theorem dX8_makeStatement_43 : decode cX8_makeStatement 43 = .ok (.i2l, 1) := by decide +kernel
theorem dX8_makeStatement_44 : decode cX8_makeStatement 44 = .ok (.ladd, 1) := by decide +kernel
theorem dX8_makeStatement_45 : decode cX8_makeStatement 45 = .ok (.invokevirtual 227, 3) := by decide +kernel
theorem dX8_makeStatement_48 : decode cX8_makeStatement 48 = .ok (.iinc 5 1, 3) := by decide +kernel
theorem dX8_makeStatement_51 : decode cX8_makeStatement 51 = .ok (.goto (-35), 3) := by decide +kernel
theorem dX8_makeStatement_54 : decode cX8_makeStatement 54 = .ok (.aload_n 0, 1) := by decide +kernel
theorem dX8_makeStatement_55 : decode cX8_makeStatement 55 = .ok (.aload_n 3, 1) := by decide +kernel
theorem dX8_makeStatement_56 : decode cX8_makeStatement 56 = .ok (.aload_n 2, 1) := by decide +kernel
theorem dX8_makeStatement_57 : decode cX8_makeStatement 57 = .ok (.getfield 76, 3) := by decide +kernel
theorem dX8_makeStatement_60 : decode cX8_makeStatement 60 = .ok (.invokevirtual 93, 3) := by decide +kernel
theorem dX8_makeStatement_63 : decode cX8_makeStatement 63 = .ok (.aload_n 2, 1) := by decide +kernel
theorem dX8_makeStatement_64 : decode cX8_makeStatement 64 = .ok (.getfield 97, 3) := by decide +kernel
theorem dX8_makeStatement_67 : decode cX8_makeStatement 67 = .ok (.iload_n 1, 1) := by decide +kernel
theorem dX8_makeStatement_68 : decode cX8_makeStatement 68 = .ok (.aaload, 1) := by decide +kernel
theorem dX8_makeStatement_69 : decode cX8_makeStatement 69 = .ok (.aload_n 3, 1) := by decide +kernel
theorem dX8_makeStatement_70 : decode cX8_makeStatement 70 = .ok (.invokevirtual 100, 3) := by decide +kernel
theorem dX8_makeStatement_73 : decode cX8_makeStatement 73 = .ok (.aload_n 0, 1) := by decide +kernel
theorem dX8_makeStatement_74 : decode cX8_makeStatement 74 = .ok (.dup, 1) := by decide +kernel
theorem dX8_makeStatement_75 : decode cX8_makeStatement 75 = .ok (.getfield 67, 3) := by decide +kernel
theorem dX8_makeStatement_78 : decode cX8_makeStatement 78 = .ok (.iconst 1, 1) := by decide +kernel
theorem dX8_makeStatement_79 : decode cX8_makeStatement 79 = .ok (.iadd, 1) := by decide +kernel
theorem dX8_makeStatement_80 : decode cX8_makeStatement 80 = .ok (.putfield 67, 3) := by decide +kernel
theorem dX8_makeStatement_83 : decode cX8_makeStatement 83 = .ok (.return_, 1) := by decide +kernel
set_option maxRecDepth 20000 in
theorem ggX8_sign_X6_copyRoot : GoodIn wsX8_sign wsX6_copyRoot := goodIn_r _ [7, 8, 9, 10, 11, 12, 73] (by decide +kernel) (by decide +kernel)
set_option maxRecDepth 20000 in
theorem gX8_sign_X6_copyRoot : GoodIn wsX8_sign (wsV RX8 231 RX6 yX6_copyRoot wsX6_copyRoot) := goodIn_app (goodIn_of _ (by decide +kernel)) ggX8_sign_X6_copyRoot
set_option maxRecDepth 20000 in
theorem ggX8_sign_X2_make : GoodIn wsX8_sign wsX2_make := goodIn_r _ [17, 18, 19, 20, 21, 22, 16, 23, 24, 25, 26, 27, 28, 29, 30, 31, 10, 11, 12, 32, 33, 34, 35, 36, 37, 38, 39, 40, 41, 42, 43, 44, 45, 46, 47, 48, 49, 50, 51, 52, 53, 54, 55, 56, 57, 74, 75, 76, 77, 78, 79] (by decide +kernel) (by decide +kernel)
set_option maxRecDepth 20000 in
theorem gX8_sign_X2_make : GoodIn wsX8_sign (wsV RX8 195 RX2 yX2_make wsX2_make) := goodIn_app (goodIn_of _ (by decide +kernel)) ggX8_sign_X2_make
theorem dX8_sign_0 : decode cX8_sign 0 = .ok (.aload_n 2, 1) := by decide +kernel
theorem dX8_sign_1 : decode cX8_sign 1 = .ok (.aload_n 1, 1) := by decide +kernel
theorem dX8_sign_2 : decode cX8_sign 2 = .ok (.getfield 169, 3) := by decide +kernel
theorem dX8_sign_5 : decode cX8_sign 5 = .ok (.bipush 20, 2) := by decide +kernel
theorem dX8_sign_7 : decode cX8_sign 7 = .ok (.invokevirtual 231, 3) := by decide +kernel
theorem dX8_sign_10 : decode cX8_sign 10 = .ok (.aload_n 0, 1) := by decide +kernel
theorem dX8_sign_11 : decode cX8_sign 11 = .ok (.getfield 19, 3) := by decide +kernel
theorem dX8_sign_14 : decode cX8_sign 14 = .ok (.aload_n 1, 1) := by decide +kernel
theorem dX8_sign_15 : decode cX8_sign 15 = .ok (.getfield 169, 3) := by decide +kernel
theorem dX8_sign_18 : decode cX8_sign 18 = .ok (.bipush 52, 2) := by decide +kernel
theorem dX8_sign_20 : decode cX8_sign 20 = .ok (.aload_n 1, 1) := by decide +kernel
theorem dX8_sign_21 : decode cX8_sign 21 = .ok (.getfield 169, 3) := by decide +kernel
theorem dX8_sign_24 : decode cX8_sign 24 = .ok (.bipush 52, 2) := by decide +kernel
theorem dX8_sign_26 : decode cX8_sign 26 = .ok (.invokevirtual 195, 3) := by decide +kernel
theorem dX8_sign_29 : decode cX8_sign 29 = .ok (.return_, 1) := by decide +kernel
