theorem dX9_spoil_31 : decode cX9_spoil 31 = .ok (.if_icmp .le 5, 3) := by decide +kernel
theorem dX9_spoil_34 : decode cX9_spoil 34 = .ok (.iconst 0, 1) := by decide +kernel
theorem dX9_spoil_35 : decode cX9_spoil 35 = .ok (.ireturn, 1) := by decide +kernel
theorem dX9_spoil_36 : decode cX9_spoil 36 = .ok (.bipush 16, 2) := by decide +kernel
theorem dX9_spoil_38 : decode cX9_spoil 38 = .ok (.iload_n 1, 1) := by decide +kernel
theorem dX9_spoil_39 : decode cX9_spoil 39 = .ok (.imul, 1) := by decide +kernel
theorem dX9_spoil_40 : decode cX9_spoil 40 = .ok (.iload_n 2, 1) := by decide +kernel
theorem dX9_spoil_41 : decode cX9_spoil 41 = .ok (.iadd, 1) := by decide +kernel
theorem dX9_spoil_42 : decode cX9_spoil 42 = .ok (.istore 5, 2) := by decide +kernel
theorem dX9_spoil_44 : decode cX9_spoil 44 = .ok (.iload_n 3, 1) := by decide +kernel
theorem dX9_spoil_45 : decode cX9_spoil 45 = .ok (.aload_n 0, 1) := by decide +kernel
theorem dX9_spoil_46 : decode cX9_spoil 46 = .ok (.getfield 97, 3) := by decide +kernel
theorem dX9_spoil_49 : decode cX9_spoil 49 = .ok (.iload 5, 2) := by decide +kernel
theorem dX9_spoil_51 : decode cX9_spoil 51 = .ok (.iaload, 1) := by decide +kernel
theorem dX9_spoil_52 : decode cX9_spoil 52 = .ok (.invokestatic 195, 3) := by decide +kernel
theorem dX9_spoil_55 : decode cX9_spoil 55 = .ok (.ifCond .ne 5, 3) := by decide +kernel
theorem dX9_spoil_58 : decode cX9_spoil 58 = .ok (.iconst 0, 1) := by decide +kernel
theorem dX9_spoil_59 : decode cX9_spoil 59 = .ok (.ireturn, 1) := by decide +kernel
theorem dX9_spoil_60 : decode cX9_spoil 60 = .ok (.aload_n 0, 1) := by decide +kernel
theorem dX9_spoil_61 : decode cX9_spoil 61 = .ok (.getfield 94, 3) := by decide +kernel
theorem dX9_spoil_64 : decode cX9_spoil 64 = .ok (.bipush 12, 2) := by decide +kernel
theorem dX9_spoil_66 : decode cX9_spoil 66 = .ok (.iload 5, 2) := by decide +kernel
theorem dX9_spoil_68 : decode cX9_spoil 68 = .ok (.imul, 1) := by decide +kernel
theorem dX9_spoil_69 : decode cX9_spoil 69 = .ok (.iload_n 3, 1) := by decide +kernel
theorem dX9_spoil_70 : decode cX9_spoil 70 = .ok (.iadd, 1) := by decide +kernel
theorem dX9_spoil_71 : decode cX9_spoil 71 = .ok (.dup2, 1) := by decide +kernel
theorem dX9_spoil_72 : decode cX9_spoil 72 = .ok (.iaload, 1) := by decide +kernel
theorem dX9_spoil_73 : decode cX9_spoil 73 = .ok (.iload 4, 2) := by decide +kernel
theorem dX9_spoil_75 : decode cX9_spoil 75 = .ok (.ixor, 1) := by decide +kernel
theorem dX9_spoil_76 : decode cX9_spoil 76 = .ok (.iastore, 1) := by decide +kernel
theorem dX9_spoil_77 : decode cX9_spoil 77 = .ok (.iconst 1, 1) := by decide +kernel
theorem dX9_spoil_78 : decode cX9_spoil 78 = .ok (.ireturn, 1) := by decide +kernel
set_option maxRecDepth 20000 in
theorem ggX9_exchange_X9_isIn : GoodIn wsX9_exchange wsX9_isIn := goodIn_r _ [5] (by decide +kernel) (by decide +kernel)
set_option maxRecDepth 20000 in
theorem gX9_exchange_X9_isIn : GoodIn wsX9_exchange (va_wsS RX9 195 yX9_isIn wsX9_isIn) := goodIn_app (goodIn_of _ (by decide +kernel)) ggX9_exchange_X9_isIn
set_option maxRecDepth 20000 in
theorem ggX9_exchange_X9_isNotAbove : GoodIn wsX9_exchange wsX9_isNotAbove := goodIn_r _ [8, 9, 10, 4, 11] (by decide +kernel) (by decide +kernel)
set_option maxRecDepth 20000 in
theorem gX9_exchange_X9_isNotAbove : GoodIn wsX9_exchange (va_wsS RX9 177 yX9_isNotAbove wsX9_isNotAbove) := goodIn_app (goodIn_of _ (by decide +kernel)) ggX9_exchange_X9_isNotAbove
theorem dX9_exchange_0 : decode cX9_exchange 0 = .ok (.iload_n 1, 1) := by decide +kernel
theorem dX9_exchange_1 : decode cX9_exchange 1 = .ok (.iconst 4, 1) := by decide +kernel
theorem dX9_exchange_2 : decode cX9_exchange 2 = .ok (.invokestatic 195, 3) := by decide +kernel
theorem dX9_exchange_5 : decode cX9_exchange 5 = .ok (.ifCond .eq 16, 3) := by decide +kernel
theorem dX9_exchange_8 : decode cX9_exchange 8 = .ok (.iload_n 2, 1) := by decide +kernel
theorem dX9_exchange_9 : decode cX9_exchange 9 = .ok (.iconst 4, 1) := by decide +kernel
theorem dX9_exchange_10 : decode cX9_exchange 10 = .ok (.invokestatic 195, 3) := by decide +kernel
theorem dX9_exchange_13 : decode cX9_exchange 13 = .ok (.ifCond .eq 8, 3) := by decide +kernel
theorem dX9_exchange_16 : decode cX9_exchange 16 = .ok (.iload_n 1, 1) := by decide +kernel
theorem dX9_exchange_17 : decode cX9_exchange 17 = .ok (.iload_n 2, 1) := by decide +kernel
theorem dX9_exchange_18 : decode cX9_exchange 18 = .ok (.if_icmp .ne 5, 3) := by decide +kernel
theorem dX9_exchange_21 : decode cX9_exchange 21 = .ok (.iconst (-1), 1) := by decide +kernel
theorem dX9_exchange_22 : decode cX9_exchange 22 = .ok (.ireturn, 1) := by decide +kernel
theorem dX9_exchange_23 : decode cX9_exchange 23 = .ok (.aload_n 0, 1) := by decide +kernel
theorem dX9_exchange_24 : decode cX9_exchange 24 = .ok (.getfield 91, 3) := by decide +kernel
theorem dX9_exchange_27 : decode cX9_exchange 27 = .ok (.bipush 84, 2) := by decide +kernel
theorem dX9_exchange_29 : decode cX9_exchange 29 = .ok (.iload_n 1, 1) := by decide +kernel
theorem dX9_exchange_30 : decode cX9_exchange 30 = .ok (.imul, 1) := by decide +kernel
theorem dX9_exchange_31 : decode cX9_exchange 31 = .ok (.bipush 84, 2) := by decide +kernel
theorem dX9_exchange_33 : decode cX9_exchange 33 = .ok (.iload_n 2, 1) := by decide +kernel
theorem dX9_exchange_34 : decode cX9_exchange 34 = .ok (.imul, 1) := by decide +kernel
theorem dX9_exchange_35 : decode cX9_exchange 35 = .ok (.invokestatic 177, 3) := by decide +kernel
theorem dX9_exchange_38 : decode cX9_exchange 38 = .ok (.ifCond .ne 21, 3) := by decide +kernel
theorem dX9_exchange_41 : decode cX9_exchange 41 = .ok (.aload_n 0, 1) := by decide +kernel
theorem dX9_exchange_42 : decode cX9_exchange 42 = .ok (.getfield 91, 3) := by decide +kernel
theorem dX9_exchange_45 : decode cX9_exchange 45 = .ok (.bipush 84, 2) := by decide +kernel
theorem dX9_exchange_47 : decode cX9_exchange 47 = .ok (.iload_n 2, 1) := by decide +kernel
theorem dX9_exchange_48 : decode cX9_exchange 48 = .ok (.imul, 1) := by decide +kernel
theorem dX9_exchange_49 : decode cX9_exchange 49 = .ok (.bipush 84, 2) := by decide +kernel
theorem dX9_exchange_51 : decode cX9_exchange 51 = .ok (.iload_n 1, 1) := by decide +kernel
theorem dX9_exchange_52 : decode cX9_exchange 52 = .ok (.imul, 1) := by decide +kernel
theorem dX9_exchange_53 : decode cX9_exchange 53 = .ok (.invokestatic 177, 3) := by decide +kernel
theorem dX9_exchange_56 : decode cX9_exchange 56 = .ok (.ifCond .eq 7, 3) := by decide +kernel
theorem dX9_exchange_59 : decode cX9_exchange 59 = .ok (.iconst 0, 1) := by decide +kernel
theorem dX9_exchange_60 : decode cX9_exchange 60 = .ok (.goto 4, 3) := by decide +kernel
theorem dX9_exchange_63 : decode cX9_exchange 63 = .ok (.iconst 1, 1) := by decide +kernel
theorem dX9_exchange_64 : decode cX9_exchange 64 = .ok (.ireturn, 1) := by decide +kernel
set_option maxRecDepth 20000 in
theorem ggX9_statement_X9_isIn : GoodIn wsX9_statement wsX9_isIn := goodIn_r _ [7] (by decide +kernel) (by decide +kernel)
set_option maxRecDepth 20000 in
theorem gX9_statement_X9_isIn : GoodIn wsX9_statement (va_wsS RX9 195 yX9_isIn wsX9_isIn) := goodIn_app (goodIn_of _ (by decide +kernel)) ggX9_statement_X9_isIn
set_option maxRecDepth 20000 in
theorem ggX9_statement_X9_placeOf : GoodIn wsX9_statement wsX9_placeOf := goodIn_r _ [10] (by decide +kernel) (by decide +kernel)
set_option maxRecDepth 20000 in
theorem gX9_statement_X9_placeOf : GoodIn wsX9_statement (va_wsS RX9 170 yX9_placeOf wsX9_placeOf) := goodIn_app (goodIn_of _ (by decide +kernel)) ggX9_statement_X9_placeOf
theorem dX9_statement_0 : decode cX9_statement 0 = .ok (.iload_n 1, 1) := by decide +kernel
theorem dX9_statement_1 : decode cX9_statement 1 = .ok (.iconst (-1), 1) := by decide +kernel
theorem dX9_statement_2 : decode cX9_statement 2 = .ok (.if_icmp .lt 28, 3) := by decide +kernel
theorem dX9_statement_5 : decode cX9_statement 5 = .ok (.iload_n 1, 1) := by decide +kernel
theorem dX9_statement_6 : decode cX9_statement 6 = .ok (.aload_n 0, 1) := by decide +kernel
theorem dX9_statement_7 : decode cX9_statement 7 = .ok (.getfield 100, 3) := by decide +kernel
theorem dX9_statement_10 : decode cX9_statement 10 = .ok (.if_icmp .ge 20, 3) := by decide +kernel
theorem dX9_statement_13 : decode cX9_statement 13 = .ok (.iload_n 2, 1) := by decide +kernel
theorem dX9_statement_14 : decode cX9_statement 14 = .ok (.iconst 4, 1) := by decide +kernel
theorem dX9_statement_15 : decode cX9_statement 15 = .ok (.invokestatic 195, 3) := by decide +kernel
theorem dX9_statement_18 : decode cX9_statement 18 = .ok (.ifCond .eq 12, 3) := by decide +kernel
theorem dX9_statement_21 : decode cX9_statement 21 = .ok (.iload_n 3, 1) := by decide +kernel
theorem dX9_statement_22 : decode cX9_statement 22 = .ok (.bipush 84, 2) := by decide +kernel
theorem dX9_statement_24 : decode cX9_statement 24 = .ok (.invokestatic 195, 3) := by decide +kernel
theorem dX9_statement_27 : decode cX9_statement 27 = .ok (.ifCond .ne 5, 3) := by decide +kernel
theorem dX9_statement_30 : decode cX9_statement 30 = .ok (.iconst (-1), 1) := by decide +kernel
theorem dX9_statement_31 : decode cX9_statement 31 = .ok (.ireturn, 1) := by decide +kernel
theorem dX9_statement_32 : decode cX9_statement 32 = .ok (.iload_n 1, 1) := by decide +kernel
theorem dX9_statement_33 : decode cX9_statement 33 = .ok (.iconst (-1), 1) := by decide +kernel
theorem dX9_statement_34 : decode cX9_statement 34 = .ok (.if_icmp .ne 17, 3) := by decide +kernel
theorem dX9_statement_37 : decode cX9_statement 37 = .ok (.aload_n 0, 1) := by decide +kernel
theorem dX9_statement_38 : decode cX9_statement 38 = .ok (.getfield 91, 3) := by decide +kernel
theorem dX9_statement_41 : decode cX9_statement 41 = .ok (.bipush 84, 2) := by decide +kernel
theorem dX9_statement_43 : decode cX9_statement 43 = .ok (.iload_n 2, 1) := by decide +kernel
theorem dX9_statement_44 : decode cX9_statement 44 = .ok (.imul, 1) := by decide +kernel
theorem dX9_statement_45 : decode cX9_statement 45 = .ok (.iload_n 3, 1) := by decide +kernel
theorem dX9_statement_46 : decode cX9_statement 46 = .ok (.iadd, 1) := by decide +kernel
theorem dX9_statement_47 : decode cX9_statement 47 = .ok (.iaload, 1) := by decide +kernel
theorem dX9_statement_48 : decode cX9_statement 48 = .ok (.goto 15, 3) := by decide +kernel
theorem dX9_statement_51 : decode cX9_statement 51 = .ok (.aload_n 0, 1) := by decide +kernel
theorem dX9_statement_52 : decode cX9_statement 52 = .ok (.getfield 88, 3) := by decide +kernel
theorem dX9_statement_55 : decode cX9_statement 55 = .ok (.iload_n 1, 1) := by decide +kernel
theorem dX9_statement_56 : decode cX9_statement 56 = .ok (.iload_n 2, 1) := by decide +kernel
theorem dX9_statement_57 : decode cX9_statement 57 = .ok (.invokestatic 170, 3) := by decide +kernel
theorem dX9_statement_60 : decode cX9_statement 60 = .ok (.iload_n 3, 1) := by decide +kernel
theorem dX9_statement_61 : decode cX9_statement 61 = .ok (.iadd, 1) := by decide +kernel
theorem dX9_statement_62 : decode cX9_statement 62 = .ok (.iaload, 1) := by decide +kernel
theorem dX9_statement_63 : decode cX9_statement 63 = .ok (.ireturn, 1) := by decide +kernel
set_option maxRecDepth 20000 in
theorem ggX9_seen_X9_isIn : GoodIn wsX9_seen wsX9_isIn := goodIn_r _ [5] (by decide +kernel) (by decide +kernel)
set_option maxRecDepth 20000 in
theorem gX9_seen_X9_isIn : GoodIn wsX9_seen (va_wsS RX9 195 yX9_isIn wsX9_isIn) := goodIn_app (goodIn_of _ (by decide +kernel)) ggX9_seen_X9_isIn
set_option maxRecDepth 20000 in
theorem ggX9_seen_X9_countAt : GoodIn wsX9_seen wsX9_countAt := goodIn_r _ [8] (by decide +kernel) (by decide +kernel)
set_option maxRecDepth 20000 in
theorem gX9_seen_X9_countAt : GoodIn wsX9_seen (va_wsS RX9 173 yX9_countAt wsX9_countAt) := goodIn_app (goodIn_of _ (by decide +kernel)) ggX9_seen_X9_countAt
theorem dX9_seen_0 : decode cX9_seen 0 = .ok (.iload_n 1, 1) := by decide +kernel
theorem dX9_seen_1 : decode cX9_seen 1 = .ok (.iconst 4, 1) := by decide +kernel
theorem dX9_seen_2 : decode cX9_seen 2 = .ok (.invokestatic 195, 3) := by decide +kernel
theorem dX9_seen_5 : decode cX9_seen 5 = .ok (.ifCond .eq 27, 3) := by decide +kernel
theorem dX9_seen_8 : decode cX9_seen 8 = .ok (.iload_n 2, 1) := by decide +kernel
theorem dX9_seen_9 : decode cX9_seen 9 = .ok (.iconst 4, 1) := by decide +kernel
theorem dX9_seen_10 : decode cX9_seen 10 = .ok (.invokestatic 195, 3) := by decide +kernel
theorem dX9_seen_13 : decode cX9_seen 13 = .ok (.ifCond .eq 19, 3) := by decide +kernel
theorem dX9_seen_16 : decode cX9_seen 16 = .ok (.aload_n 0, 1) := by decide +kernel
theorem dX9_seen_17 : decode cX9_seen 17 = .ok (.getfield 91, 3) := by decide +kernel
theorem dX9_seen_20 : decode cX9_seen 20 = .ok (.bipush 84, 2) := by decide +kernel
theorem dX9_seen_22 : decode cX9_seen 22 = .ok (.iload_n 1, 1) := by decide +kernel
theorem dX9_seen_23 : decode cX9_seen 23 = .ok (.imul, 1) := by decide +kernel
theorem dX9_seen_24 : decode cX9_seen 24 = .ok (.iload_n 2, 1) := by decide +kernel
theorem dX9_seen_25 : decode cX9_seen 25 = .ok (.invokestatic 173, 3) := by decide +kernel
theorem dX9_seen_28 : decode cX9_seen 28 = .ok (.l2i, 1) := by decide +kernel
theorem dX9_seen_29 : decode cX9_seen 29 = .ok (.goto 4, 3) := by decide +kernel
theorem dX9_seen_32 : decode cX9_seen 32 = .ok (.iconst (-1), 1) := by decide +kernel
theorem dX9_seen_33 : decode cX9_seen 33 = .ok (.ireturn, 1) := by decide +kernel
set_option maxRecDepth 20000 in
theorem ggX9_digest_X9_isIn : GoodIn wsX9_digest wsX9_isIn := goodIn_r _ [10] (by decide +kernel) (by decide +kernel)
set_option maxRecDepth 20000 in
theorem gX9_digest_X9_isIn : GoodIn wsX9_digest (va_wsS RX9 195 yX9_isIn wsX9_isIn) := goodIn_app (goodIn_of _ (by decide +kernel)) ggX9_digest_X9_isIn
set_option maxRecDepth 20000 in
theorem ggX9_digest_X9_mac : GoodIn wsX9_digest wsX9_mac := goodIn_r _ [14, 5, 2, 3, 15, 6, 16, 17, 18, 9, 19, 20, 21, 22, 23, 24, 25, 26, 27, 28, 29, 30, 31, 32, 33, 34, 35, 36, 37, 38, 39, 40, 41, 42, 43, 44, 45, 46, 47, 48, 49, 50, 51, 52, 53, 54, 55, 56, 57, 58, 59, 60, 61, 62] (by decide +kernel) (by decide +kernel)
set_option maxRecDepth 20000 in
theorem gX9_digest_X9_mac : GoodIn wsX9_digest (wsV RX9 167 RX9 yX9_mac wsX9_mac) := goodIn_app (goodIn_of _ (by decide +kernel)) ggX9_digest_X9_mac
set_option maxRecDepth 20000 in
theorem ggX9_digest_X9_add : GoodIn wsX9_digest wsX9_add := goodIn_r _ [23, 24, 5, 40, 41, 42, 43, 44, 45, 46, 47, 48, 49, 50, 51, 52, 53, 54, 55, 56, 57, 58, 59, 60, 61, 62] (by decide +kernel) (by decide +kernel)
set_option maxRecDepth 20000 in
theorem gX9_digest_X9_add : GoodIn wsX9_digest (wsV RX9 152 RX9 yX9_add wsX9_add) := goodIn_app (goodIn_of _ (by decide +kernel)) ggX9_digest_X9_add
set_option maxRecDepth 20000 in
theorem ggX9_digest_X9_hash : GoodIn wsX9_digest wsX9_hash := goodIn_r _ [28, 5, 29, 30, 6, 20, 21, 22, 9, 23, 24, 31, 32, 33, 34, 35, 36, 37, 38, 39, 40, 41, 42, 43, 44, 45, 46, 47, 48, 49, 50, 51, 52, 53, 54, 55, 56, 57, 58, 59, 60, 61, 62] (by decide +kernel) (by decide +kernel)
set_option maxRecDepth 20000 in
theorem gX9_digest_X9_hash : GoodIn wsX9_digest (wsV RX9 164 RX9 yX9_hash wsX9_hash) := goodIn_app (goodIn_of _ (by decide +kernel)) ggX9_digest_X9_hash
theorem dX9_digest_0 : decode cX9_digest 0 = .ok (.iload_n 1, 1) := by decide +kernel
theorem dX9_digest_1 : decode cX9_digest 1 = .ok (.ifCond .lt 17, 3) := by decide +kernel
theorem dX9_digest_4 : decode cX9_digest 4 = .ok (.iload_n 1, 1) := by decide +kernel
theorem dX9_digest_5 : decode cX9_digest 5 = .ok (.iconst 1, 1) := by decide +kernel
theorem dX9_digest_6 : decode cX9_digest 6 = .ok (.if_icmp .gt 12, 3) := by decide +kernel
theorem dX9_digest_9 : decode cX9_digest 9 = .ok (.iload_n 2, 1) := by decide +kernel
theorem dX9_digest_10 : decode cX9_digest 10 = .ok (.bipush 32, 2) := by decide +kernel
theorem dX9_digest_12 : decode cX9_digest 12 = .ok (.invokestatic 195, 3) := by decide +kernel
theorem dX9_digest_15 : decode cX9_digest 15 = .ok (.ifCond .ne 5, 3) := by decide +kernel
theorem dX9_digest_18 : decode cX9_digest 18 = .ok (.iconst (-1), 1) := by decide +kernel
theorem dX9_digest_19 : decode cX9_digest 19 = .ok (.ireturn, 1) := by decide +kernel
theorem dX9_digest_20 : decode cX9_digest 20 = .ok (.aload_n 0, 1) := by decide +kernel
theorem dX9_digest_21 : decode cX9_digest 21 = .ok (.aload_n 0, 1) := by decide +kernel
theorem dX9_digest_22 : decode cX9_digest 22 = .ok (.getfield 192, 3) := by decide +kernel
theorem dX9_digest_25 : decode cX9_digest 25 = .ok (.putfield 161, 3) := by decide +kernel
theorem dX9_digest_28 : decode cX9_digest 28 = .ok (.iconst 0, 1) := by decide +kernel
theorem dX9_digest_29 : decode cX9_digest 29 = .ok (.istore_n 3, 1) := by decide +kernel
theorem dX9_digest_30 : decode cX9_digest 30 = .ok (.iload_n 3, 1) := by decide +kernel
theorem dX9_digest_31 : decode cX9_digest 31 = .ok (.aload_n 0, 1) := by decide +kernel
theorem dX9_digest_32 : decode cX9_digest 32 = .ok (.getfield 192, 3) := by decide +kernel
theorem dX9_digest_35 : decode cX9_digest 35 = .ok (.if_icmp .ge 21, 3) := by decide +kernel
theorem dX9_digest_38 : decode cX9_digest 38 = .ok (.aload_n 0, 1) := by decide +kernel
theorem dX9_digest_39 : decode cX9_digest 39 = .ok (.getfield 131, 3) := by decide +kernel
theorem dX9_digest_42 : decode cX9_digest 42 = .ok (.iload_n 3, 1) := by decide +kernel
theorem dX9_digest_43 : decode cX9_digest 43 = .ok (.aload_n 0, 1) := by decide +kernel
theorem dX9_digest_44 : decode cX9_digest 44 = .ok (.getfield 107, 3) := by decide +kernel
theorem dX9_digest_47 : decode cX9_digest 47 = .ok (.iload_n 3, 1) := by decide +kernel
theorem dX9_digest_48 : decode cX9_digest 48 = .ok (.iaload, 1) := by decide +kernel
theorem dX9_digest_49 : decode cX9_digest 49 = .ok (.iastore, 1) := by decide +kernel
theorem dX9_digest_50 : decode cX9_digest 50 = .ok (.iinc 3 1, 3) := by decide +kernel
theorem dX9_digest_53 : decode cX9_digest 53 = .ok (.goto (-23), 3) := by decide +kernel
theorem dX9_digest_56 : decode cX9_digest 56 = .ok (.iload_n 1, 1) := by decide +kernel
theorem dX9_digest_57 : decode cX9_digest 57 = .ok (.iconst 1, 1) := by decide +kernel
theorem dX9_digest_58 : decode cX9_digest 58 = .ok (.if_icmp .ne 10, 3) := by decide +kernel
theorem dX9_digest_61 : decode cX9_digest 61 = .ok (.aload_n 0, 1) := by decide +kernel
theorem dX9_digest_62 : decode cX9_digest 62 = .ok (.invokevirtual 167, 3) := by decide +kernel
theorem dX9_digest_65 : decode cX9_digest 65 = .ok (.goto 38, 3) := by decide +kernel
theorem dX9_digest_68 : decode cX9_digest 68 = .ok (.aload_n 0, 1) := by decide +kernel
theorem dX9_digest_69 : decode cX9_digest 69 = .ok (.iconst 0, 1) := by decide +kernel
theorem dX9_digest_70 : decode cX9_digest 70 = .ok (.putfield 145, 3) := by decide +kernel
theorem dX9_digest_73 : decode cX9_digest 73 = .ok (.iconst 0, 1) := by decide +kernel
theorem dX9_digest_74 : decode cX9_digest 74 = .ok (.istore_n 3, 1) := by decide +kernel
theorem dX9_digest_75 : decode cX9_digest 75 = .ok (.iload_n 3, 1) := by decide +kernel
theorem dX9_digest_76 : decode cX9_digest 76 = .ok (.aload_n 0, 1) := by decide +kernel
theorem dX9_digest_77 : decode cX9_digest 77 = .ok (.getfield 192, 3) := by decide +kernel
theorem dX9_digest_80 : decode cX9_digest 80 = .ok (.if_icmp .ge 19, 3) := by decide +kernel
theorem dX9_digest_83 : decode cX9_digest 83 = .ok (.aload_n 0, 1) := by decide +kernel
theorem dX9_digest_84 : decode cX9_digest 84 = .ok (.aload_n 0, 1) := by decide +kernel
theorem dX9_digest_85 : decode cX9_digest 85 = .ok (.getfield 107, 3) := by decide +kernel
theorem dX9_digest_88 : decode cX9_digest 88 = .ok (.iload_n 3, 1) := by decide +kernel
theorem dX9_digest_89 : decode cX9_digest 89 = .ok (.iaload, 1) := by decide +kernel
theorem dX9_digest_90 : decode cX9_digest 90 = .ok (.invokevirtual 152, 3) := by decide +kernel
theorem dX9_digest_93 : decode cX9_digest 93 = .ok (.iinc 3 1, 3) := by decide +kernel
theorem dX9_digest_96 : decode cX9_digest 96 = .ok (.goto (-21), 3) := by decide +kernel
