theorem dX9_split_38 : decode cX9_split 38 = .ok (.aload_n 0, 1) := by decide +kernel
theorem dX9_split_39 : decode cX9_split 39 = .ok (.getfield 100, 3) := by decide +kernel
theorem dX9_split_42 : decode cX9_split 42 = .ok (.imul, 1) := by decide +kernel
theorem dX9_split_43 : decode cX9_split 43 = .ok (.iload_n 2, 1) := by decide +kernel
theorem dX9_split_44 : decode cX9_split 44 = .ok (.iadd, 1) := by decide +kernel
theorem dX9_split_45 : decode cX9_split 45 = .ok (.aload_n 0, 1) := by decide +kernel
theorem dX9_split_46 : decode cX9_split 46 = .ok (.getfield 88, 3) := by decide +kernel
theorem dX9_split_49 : decode cX9_split 49 = .ok (.sipush 336, 3) := by decide +kernel
theorem dX9_split_52 : decode cX9_split 52 = .ok (.iload_n 1, 1) := by decide +kernel
theorem dX9_split_53 : decode cX9_split 53 = .ok (.imul, 1) := by decide +kernel
theorem dX9_split_54 : decode cX9_split 54 = .ok (.iload_n 2, 1) := by decide +kernel
theorem dX9_split_55 : decode cX9_split 55 = .ok (.iadd, 1) := by decide +kernel
theorem dX9_split_56 : decode cX9_split 56 = .ok (.iaload, 1) := by decide +kernel
theorem dX9_split_57 : decode cX9_split 57 = .ok (.iastore, 1) := by decide +kernel
theorem dX9_split_58 : decode cX9_split 58 = .ok (.iinc 2 1, 3) := by decide +kernel
theorem dX9_split_61 : decode cX9_split 61 = .ok (.goto (-37), 3) := by decide +kernel
theorem dX9_split_64 : decode cX9_split 64 = .ok (.iconst 0, 1) := by decide +kernel
theorem dX9_split_65 : decode cX9_split 65 = .ok (.istore_n 2, 1) := by decide +kernel
theorem dX9_split_66 : decode cX9_split 66 = .ok (.iload_n 2, 1) := by decide +kernel
theorem dX9_split_67 : decode cX9_split 67 = .ok (.sipush 192, 3) := by decide +kernel
theorem dX9_split_70 : decode cX9_split 70 = .ok (.if_icmp .ge 36, 3) := by decide +kernel
theorem dX9_split_73 : decode cX9_split 73 = .ok (.aload_n 0, 1) := by decide +kernel
theorem dX9_split_74 : decode cX9_split 74 = .ok (.getfield 94, 3) := by decide +kernel
theorem dX9_split_77 : decode cX9_split 77 = .ok (.sipush 192, 3) := by decide +kernel
theorem dX9_split_80 : decode cX9_split 80 = .ok (.aload_n 0, 1) := by decide +kernel
theorem dX9_split_81 : decode cX9_split 81 = .ok (.getfield 100, 3) := by decide +kernel
theorem dX9_split_84 : decode cX9_split 84 = .ok (.imul, 1) := by decide +kernel
theorem dX9_split_85 : decode cX9_split 85 = .ok (.iload_n 2, 1) := by decide +kernel
theorem dX9_split_86 : decode cX9_split 86 = .ok (.iadd, 1) := by decide +kernel
theorem dX9_split_87 : decode cX9_split 87 = .ok (.aload_n 0, 1) := by decide +kernel
theorem dX9_split_88 : decode cX9_split 88 = .ok (.getfield 94, 3) := by decide +kernel
theorem dX9_split_91 : decode cX9_split 91 = .ok (.sipush 192, 3) := by decide +kernel
theorem dX9_split_94 : decode cX9_split 94 = .ok (.iload_n 1, 1) := by decide +kernel
theorem dX9_split_95 : decode cX9_split 95 = .ok (.imul, 1) := by decide +kernel
theorem dX9_split_96 : decode cX9_split 96 = .ok (.iload_n 2, 1) := by decide +kernel
theorem dX9_split_97 : decode cX9_split 97 = .ok (.iadd, 1) := by decide +kernel
theorem dX9_split_98 : decode cX9_split 98 = .ok (.iaload, 1) := by decide +kernel
theorem dX9_split_99 : decode cX9_split 99 = .ok (.iastore, 1) := by decide +kernel
theorem dX9_split_100 : decode cX9_split 100 = .ok (.iinc 2 1, 3) := by decide +kernel
theorem dX9_split_103 : decode cX9_split 103 = .ok (.goto (-37), 3) := by decide +kernel
theorem dX9_split_106 : decode cX9_split 106 = .ok (.iconst 0, 1) := by decide +kernel
theorem dX9_split_107 : decode cX9_split 107 = .ok (.istore_n 2, 1) := by decide +kernel
theorem dX9_split_108 : decode cX9_split 108 = .ok (.iload_n 2, 1) := by decide +kernel
theorem dX9_split_109 : decode cX9_split 109 = .ok (.bipush 16, 2) := by decide +kernel
theorem dX9_split_111 : decode cX9_split 111 = .ok (.if_icmp .ge 34, 3) := by decide +kernel
theorem dX9_split_114 : decode cX9_split 114 = .ok (.aload_n 0, 1) := by decide +kernel
theorem dX9_split_115 : decode cX9_split 115 = .ok (.getfield 97, 3) := by decide +kernel
theorem dX9_split_118 : decode cX9_split 118 = .ok (.bipush 16, 2) := by decide +kernel
theorem dX9_split_120 : decode cX9_split 120 = .ok (.aload_n 0, 1) := by decide +kernel
theorem dX9_split_121 : decode cX9_split 121 = .ok (.getfield 100, 3) := by decide +kernel
theorem dX9_split_124 : decode cX9_split 124 = .ok (.imul, 1) := by decide +kernel
theorem dX9_split_125 : decode cX9_split 125 = .ok (.iload_n 2, 1) := by decide +kernel
theorem dX9_split_126 : decode cX9_split 126 = .ok (.iadd, 1) := by decide +kernel
theorem dX9_split_127 : decode cX9_split 127 = .ok (.aload_n 0, 1) := by decide +kernel
theorem dX9_split_128 : decode cX9_split 128 = .ok (.getfield 97, 3) := by decide +kernel
theorem dX9_split_131 : decode cX9_split 131 = .ok (.bipush 16, 2) := by decide +kernel
theorem dX9_split_133 : decode cX9_split 133 = .ok (.iload_n 1, 1) := by decide +kernel
theorem dX9_split_134 : decode cX9_split 134 = .ok (.imul, 1) := by decide +kernel
theorem dX9_split_135 : decode cX9_split 135 = .ok (.iload_n 2, 1) := by decide +kernel
theorem dX9_split_136 : decode cX9_split 136 = .ok (.iadd, 1) := by decide +kernel
theorem dX9_split_137 : decode cX9_split 137 = .ok (.iaload, 1) := by decide +kernel
theorem dX9_split_138 : decode cX9_split 138 = .ok (.iastore, 1) := by decide +kernel
theorem dX9_split_139 : decode cX9_split 139 = .ok (.iinc 2 1, 3) := by decide +kernel
theorem dX9_split_142 : decode cX9_split 142 = .ok (.goto (-34), 3) := by decide +kernel
theorem dX9_split_145 : decode cX9_split 145 = .ok (.aload_n 0, 1) := by decide +kernel
theorem dX9_split_146 : decode cX9_split 146 = .ok (.dup, 1) := by decide +kernel
theorem dX9_split_147 : decode cX9_split 147 = .ok (.getfield 100, 3) := by decide +kernel
theorem dX9_split_150 : decode cX9_split 150 = .ok (.iconst 1, 1) := by decide +kernel
theorem dX9_split_151 : decode cX9_split 151 = .ok (.iadd, 1) := by decide +kernel
theorem dX9_split_152 : decode cX9_split 152 = .ok (.putfield 100, 3) := by decide +kernel
theorem dX9_split_155 : decode cX9_split 155 = .ok (.aload_n 0, 1) := by decide +kernel
theorem dX9_split_156 : decode cX9_split 156 = .ok (.getfield 100, 3) := by decide +kernel
theorem dX9_split_159 : decode cX9_split 159 = .ok (.iconst 1, 1) := by decide +kernel
theorem dX9_split_160 : decode cX9_split 160 = .ok (.isub, 1) := by decide +kernel
theorem dX9_split_161 : decode cX9_split 161 = .ok (.ireturn, 1) := by decide +kernel
set_option maxRecDepth 20000 in
theorem ggX9_show_X9_isIn : GoodIn wsX9_show wsX9_isIn := goodIn_r _ [6] (by decide +kernel) (by decide +kernel)
set_option maxRecDepth 20000 in
theorem gX9_show_X9_isIn : GoodIn wsX9_show (va_wsS RX9 195 yX9_isIn wsX9_isIn) := goodIn_app (goodIn_of _ (by decide +kernel)) ggX9_show_X9_isIn
theorem dX9_show_0 : decode cX9_show 0 = .ok (.iload_n 1, 1) := by decide +kernel
theorem dX9_show_1 : decode cX9_show 1 = .ok (.iconst 4, 1) := by decide +kernel
theorem dX9_show_2 : decode cX9_show 2 = .ok (.invokestatic 195, 3) := by decide +kernel
theorem dX9_show_5 : decode cX9_show 5 = .ok (.ifCond .eq 14, 3) := by decide +kernel
theorem dX9_show_8 : decode cX9_show 8 = .ok (.iload_n 2, 1) := by decide +kernel
theorem dX9_show_9 : decode cX9_show 9 = .ok (.aload_n 0, 1) := by decide +kernel
theorem dX9_show_10 : decode cX9_show 10 = .ok (.getfield 100, 3) := by decide +kernel
theorem dX9_show_13 : decode cX9_show 13 = .ok (.invokestatic 195, 3) := by decide +kernel
theorem dX9_show_16 : decode cX9_show 16 = .ok (.ifCond .ne 5, 3) := by decide +kernel
theorem dX9_show_19 : decode cX9_show 19 = .ok (.iconst (-1), 1) := by decide +kernel
theorem dX9_show_20 : decode cX9_show 20 = .ok (.ireturn, 1) := by decide +kernel
theorem dX9_show_21 : decode cX9_show 21 = .ok (.aload_n 0, 1) := by decide +kernel
theorem dX9_show_22 : decode cX9_show 22 = .ok (.getfield 104, 3) := by decide +kernel
theorem dX9_show_25 : decode cX9_show 25 = .ok (.iload_n 1, 1) := by decide +kernel
theorem dX9_show_26 : decode cX9_show 26 = .ok (.iaload, 1) := by decide +kernel
theorem dX9_show_27 : decode cX9_show 27 = .ok (.istore_n 3, 1) := by decide +kernel
theorem dX9_show_28 : decode cX9_show 28 = .ok (.aload_n 0, 1) := by decide +kernel
theorem dX9_show_29 : decode cX9_show 29 = .ok (.getfield 104, 3) := by decide +kernel
theorem dX9_show_32 : decode cX9_show 32 = .ok (.iload_n 1, 1) := by decide +kernel
theorem dX9_show_33 : decode cX9_show 33 = .ok (.iload_n 2, 1) := by decide +kernel
theorem dX9_show_34 : decode cX9_show 34 = .ok (.iastore, 1) := by decide +kernel
theorem dX9_show_35 : decode cX9_show 35 = .ok (.iload_n 3, 1) := by decide +kernel
theorem dX9_show_36 : decode cX9_show 36 = .ok (.ireturn, 1) := by decide +kernel
set_option maxRecDepth 20000 in
theorem ggX9_graft_X9_isIn : GoodIn wsX9_graft wsX9_isIn := goodIn_r _ [6] (by decide +kernel) (by decide +kernel)
set_option maxRecDepth 20000 in
theorem gX9_graft_X9_isIn : GoodIn wsX9_graft (va_wsS RX9 195 yX9_isIn wsX9_isIn) := goodIn_app (goodIn_of _ (by decide +kernel)) ggX9_graft_X9_isIn
set_option maxRecDepth 20000 in
theorem ggX9_graft_X9_placeOf : GoodIn wsX9_graft wsX9_placeOf := goodIn_r _ [9] (by decide +kernel) (by decide +kernel)
set_option maxRecDepth 20000 in
theorem gX9_graft_X9_placeOf : GoodIn wsX9_graft (va_wsS RX9 170 yX9_placeOf wsX9_placeOf) := goodIn_app (goodIn_of _ (by decide +kernel)) ggX9_graft_X9_placeOf
theorem dX9_graft_0 : decode cX9_graft 0 = .ok (.iload_n 1, 1) := by decide +kernel
theorem dX9_graft_1 : decode cX9_graft 1 = .ok (.aload_n 0, 1) := by decide +kernel
theorem dX9_graft_2 : decode cX9_graft 2 = .ok (.getfield 100, 3) := by decide +kernel
theorem dX9_graft_5 : decode cX9_graft 5 = .ok (.invokestatic 195, 3) := by decide +kernel
theorem dX9_graft_8 : decode cX9_graft 8 = .ok (.ifCond .eq 22, 3) := by decide +kernel
theorem dX9_graft_11 : decode cX9_graft 11 = .ok (.iload_n 2, 1) := by decide +kernel
theorem dX9_graft_12 : decode cX9_graft 12 = .ok (.iconst 4, 1) := by decide +kernel
theorem dX9_graft_13 : decode cX9_graft 13 = .ok (.invokestatic 195, 3) := by decide +kernel
theorem dX9_graft_16 : decode cX9_graft 16 = .ok (.ifCond .eq 14, 3) := by decide +kernel
theorem dX9_graft_19 : decode cX9_graft 19 = .ok (.iload_n 3, 1) := by decide +kernel
theorem dX9_graft_20 : decode cX9_graft 20 = .ok (.aload_n 0, 1) := by decide +kernel
theorem dX9_graft_21 : decode cX9_graft 21 = .ok (.getfield 100, 3) := by decide +kernel
theorem dX9_graft_24 : decode cX9_graft 24 = .ok (.invokestatic 195, 3) := by decide +kernel
theorem dX9_graft_27 : decode cX9_graft 27 = .ok (.ifCond .ne 5, 3) := by decide +kernel
theorem dX9_graft_30 : decode cX9_graft 30 = .ok (.iconst 0, 1) := by decide +kernel
theorem dX9_graft_31 : decode cX9_graft 31 = .ok (.ireturn, 1) := by decide +kernel
theorem dX9_graft_32 : decode cX9_graft 32 = .ok (.iconst 0, 1) := by decide +kernel
theorem dX9_graft_33 : decode cX9_graft 33 = .ok (.istore 4, 2) := by decide +kernel
theorem dX9_graft_35 : decode cX9_graft 35 = .ok (.iload 4, 2) := by decide +kernel
theorem dX9_graft_37 : decode cX9_graft 37 = .ok (.bipush 84, 2) := by decide +kernel
theorem dX9_graft_39 : decode cX9_graft 39 = .ok (.if_icmp .ge 35, 3) := by decide +kernel
theorem dX9_graft_42 : decode cX9_graft 42 = .ok (.aload_n 0, 1) := by decide +kernel
theorem dX9_graft_43 : decode cX9_graft 43 = .ok (.getfield 88, 3) := by decide +kernel
theorem dX9_graft_46 : decode cX9_graft 46 = .ok (.iload_n 1, 1) := by decide +kernel
theorem dX9_graft_47 : decode cX9_graft 47 = .ok (.iload_n 2, 1) := by decide +kernel
theorem dX9_graft_48 : decode cX9_graft 48 = .ok (.invokestatic 170, 3) := by decide +kernel
theorem dX9_graft_51 : decode cX9_graft 51 = .ok (.iload 4, 2) := by decide +kernel
theorem dX9_graft_53 : decode cX9_graft 53 = .ok (.iadd, 1) := by decide +kernel
theorem dX9_graft_54 : decode cX9_graft 54 = .ok (.aload_n 0, 1) := by decide +kernel
theorem dX9_graft_55 : decode cX9_graft 55 = .ok (.getfield 88, 3) := by decide +kernel
theorem dX9_graft_58 : decode cX9_graft 58 = .ok (.iload_n 3, 1) := by decide +kernel
theorem dX9_graft_59 : decode cX9_graft 59 = .ok (.iload_n 2, 1) := by decide +kernel
theorem dX9_graft_60 : decode cX9_graft 60 = .ok (.invokestatic 170, 3) := by decide +kernel
theorem dX9_graft_63 : decode cX9_graft 63 = .ok (.iload 4, 2) := by decide +kernel
theorem dX9_graft_65 : decode cX9_graft 65 = .ok (.iadd, 1) := by decide +kernel
theorem dX9_graft_66 : decode cX9_graft 66 = .ok (.iaload, 1) := by decide +kernel
theorem dX9_graft_67 : decode cX9_graft 67 = .ok (.iastore, 1) := by decide +kernel
theorem dX9_graft_68 : decode cX9_graft 68 = .ok (.iinc 4 1, 3) := by decide +kernel
theorem dX9_graft_71 : decode cX9_graft 71 = .ok (.goto (-36), 3) := by decide +kernel
theorem dX9_graft_74 : decode cX9_graft 74 = .ok (.iconst 1, 1) := by decide +kernel
theorem dX9_graft_75 : decode cX9_graft 75 = .ok (.ireturn, 1) := by decide +kernel
set_option maxRecDepth 20000 in
theorem ggX9_poke_X9_isIn : GoodIn wsX9_poke wsX9_isIn := goodIn_r _ [6] (by decide +kernel) (by decide +kernel)
set_option maxRecDepth 20000 in
theorem gX9_poke_X9_isIn : GoodIn wsX9_poke (va_wsS RX9 195 yX9_isIn wsX9_isIn) := goodIn_app (goodIn_of _ (by decide +kernel)) ggX9_poke_X9_isIn
set_option maxRecDepth 20000 in
theorem ggX9_poke_X9_placeOf : GoodIn wsX9_poke wsX9_placeOf := goodIn_r _ [9] (by decide +kernel) (by decide +kernel)
set_option maxRecDepth 20000 in
theorem gX9_poke_X9_placeOf : GoodIn wsX9_poke (va_wsS RX9 170 yX9_placeOf wsX9_placeOf) := goodIn_app (goodIn_of _ (by decide +kernel)) ggX9_poke_X9_placeOf
theorem dX9_poke_0 : decode cX9_poke 0 = .ok (.iload_n 1, 1) := by decide +kernel
theorem dX9_poke_1 : decode cX9_poke 1 = .ok (.aload_n 0, 1) := by decide +kernel
theorem dX9_poke_2 : decode cX9_poke 2 = .ok (.getfield 100, 3) := by decide +kernel
theorem dX9_poke_5 : decode cX9_poke 5 = .ok (.invokestatic 195, 3) := by decide +kernel
theorem dX9_poke_8 : decode cX9_poke 8 = .ok (.ifCond .eq 34, 3) := by decide +kernel
theorem dX9_poke_11 : decode cX9_poke 11 = .ok (.iload_n 2, 1) := by decide +kernel
theorem dX9_poke_12 : decode cX9_poke 12 = .ok (.iconst 4, 1) := by decide +kernel
theorem dX9_poke_13 : decode cX9_poke 13 = .ok (.invokestatic 195, 3) := by decide +kernel
theorem dX9_poke_16 : decode cX9_poke 16 = .ok (.ifCond .eq 26, 3) := by decide +kernel
theorem dX9_poke_19 : decode cX9_poke 19 = .ok (.iload_n 3, 1) := by decide +kernel
theorem dX9_poke_20 : decode cX9_poke 20 = .ok (.bipush 84, 2) := by decide +kernel
theorem dX9_poke_22 : decode cX9_poke 22 = .ok (.invokestatic 195, 3) := by decide +kernel
theorem dX9_poke_25 : decode cX9_poke 25 = .ok (.ifCond .eq 17, 3) := by decide +kernel
theorem dX9_poke_28 : decode cX9_poke 28 = .ok (.iload 4, 2) := by decide +kernel
theorem dX9_poke_30 : decode cX9_poke 30 = .ok (.iconst 1, 1) := by decide +kernel
theorem dX9_poke_31 : decode cX9_poke 31 = .ok (.if_icmp .lt 11, 3) := by decide +kernel
theorem dX9_poke_34 : decode cX9_poke 34 = .ok (.iload 4, 2) := by decide +kernel
theorem dX9_poke_36 : decode cX9_poke 36 = .ok (.sipush 255, 3) := by decide +kernel
theorem dX9_poke_39 : decode cX9_poke 39 = .ok (.if_icmp .le 5, 3) := by decide +kernel
theorem dX9_poke_42 : decode cX9_poke 42 = .ok (.iconst 0, 1) := by decide +kernel
theorem dX9_poke_43 : decode cX9_poke 43 = .ok (.ireturn, 1) := by decide +kernel
theorem dX9_poke_44 : decode cX9_poke 44 = .ok (.aload_n 0, 1) := by decide +kernel
theorem dX9_poke_45 : decode cX9_poke 45 = .ok (.getfield 88, 3) := by decide +kernel
theorem dX9_poke_48 : decode cX9_poke 48 = .ok (.iload_n 1, 1) := by decide +kernel
theorem dX9_poke_49 : decode cX9_poke 49 = .ok (.iload_n 2, 1) := by decide +kernel
theorem dX9_poke_50 : decode cX9_poke 50 = .ok (.invokestatic 170, 3) := by decide +kernel
theorem dX9_poke_53 : decode cX9_poke 53 = .ok (.iload_n 3, 1) := by decide +kernel
theorem dX9_poke_54 : decode cX9_poke 54 = .ok (.iadd, 1) := by decide +kernel
theorem dX9_poke_55 : decode cX9_poke 55 = .ok (.dup2, 1) := by decide +kernel
theorem dX9_poke_56 : decode cX9_poke 56 = .ok (.iaload, 1) := by decide +kernel
theorem dX9_poke_57 : decode cX9_poke 57 = .ok (.iload 4, 2) := by decide +kernel
theorem dX9_poke_59 : decode cX9_poke 59 = .ok (.ixor, 1) := by decide +kernel
theorem dX9_poke_60 : decode cX9_poke 60 = .ok (.iastore, 1) := by decide +kernel
theorem dX9_poke_61 : decode cX9_poke 61 = .ok (.iconst 1, 1) := by decide +kernel
theorem dX9_poke_62 : decode cX9_poke 62 = .ok (.ireturn, 1) := by decide +kernel
set_option maxRecDepth 20000 in
theorem ggX9_spoil_X9_isIn : GoodIn wsX9_spoil wsX9_isIn := goodIn_r _ [7] (by decide +kernel) (by decide +kernel)
set_option maxRecDepth 20000 in
theorem gX9_spoil_X9_isIn : GoodIn wsX9_spoil (va_wsS RX9 195 yX9_isIn wsX9_isIn) := goodIn_app (goodIn_of _ (by decide +kernel)) ggX9_spoil_X9_isIn
theorem dX9_spoil_0 : decode cX9_spoil 0 = .ok (.iload_n 1, 1) := by decide +kernel
theorem dX9_spoil_1 : decode cX9_spoil 1 = .ok (.aload_n 0, 1) := by decide +kernel
theorem dX9_spoil_2 : decode cX9_spoil 2 = .ok (.getfield 100, 3) := by decide +kernel
theorem dX9_spoil_5 : decode cX9_spoil 5 = .ok (.invokestatic 195, 3) := by decide +kernel
theorem dX9_spoil_8 : decode cX9_spoil 8 = .ok (.ifCond .eq 26, 3) := by decide +kernel
theorem dX9_spoil_11 : decode cX9_spoil 11 = .ok (.iload_n 2, 1) := by decide +kernel
theorem dX9_spoil_12 : decode cX9_spoil 12 = .ok (.bipush 16, 2) := by decide +kernel
theorem dX9_spoil_14 : decode cX9_spoil 14 = .ok (.invokestatic 195, 3) := by decide +kernel
theorem dX9_spoil_17 : decode cX9_spoil 17 = .ok (.ifCond .eq 17, 3) := by decide +kernel
theorem dX9_spoil_20 : decode cX9_spoil 20 = .ok (.iload 4, 2) := by decide +kernel
theorem dX9_spoil_22 : decode cX9_spoil 22 = .ok (.iconst 1, 1) := by decide +kernel
theorem dX9_spoil_23 : decode cX9_spoil 23 = .ok (.if_icmp .lt 11, 3) := by decide +kernel
theorem dX9_spoil_26 : decode cX9_spoil 26 = .ok (.iload 4, 2) := by decide +kernel
theorem dX9_spoil_28 : decode cX9_spoil 28 = .ok (.sipush 255, 3) := by decide +kernel
theorem dX9_spoil_31 : decode cX9_spoil 31 = .ok (.if_icmp .le 5, 3) := by decide +kernel
theorem dX9_spoil_34 : decode cX9_spoil 34 = .ok (.iconst 0, 1) := by decide +kernel
theorem dX9_spoil_35 : decode cX9_spoil 35 = .ok (.ireturn, 1) := by decide +kernel
theorem dX9_spoil_36 : decode cX9_spoil 36 = .ok (.bipush 16, 2) := by decide +kernel
theorem dX9_spoil_38 : decode cX9_spoil 38 = .ok (.iload_n 1, 1) := by decide +kernel
theorem dX9_spoil_39 : decode cX9_spoil 39 = .ok (.imul, 1) := by decide +kernel
theorem dX9_spoil_40 : decode cX9_spoil 40 = .ok (.iload_n 2, 1) := by decide +kernel
theorem dX9_spoil_41 : decode cX9_spoil 41 = .ok (.iadd, 1) := by decide +kernel
theorem dX9_spoil_42 : decode cX9_spoil 42 = .ok (.istore 5, 2) := by decide +kernel
theorem dX9_spoil_44 : decode cX9_spoil 44 = .ok (.iload_n 3, 1) := by decide +kernel
theorem dX9_spoil_45 : decode cX9_spoil 45 = .ok (.aload_n 0, 1) := by decide +kernel
theorem dX9_spoil_46 : decode cX9_spoil 46 = .ok (.getfield 97, 3) := by decide +kernel
theorem dX9_spoil_49 : decode cX9_spoil 49 = .ok (.iload 5, 2) := by decide +kernel
theorem dX9_spoil_51 : decode cX9_spoil 51 = .ok (.iaload, 1) := by decide +kernel
theorem dX9_spoil_52 : decode cX9_spoil 52 = .ok (.invokestatic 195, 3) := by decide +kernel
theorem dX9_spoil_55 : decode cX9_spoil 55 = .ok (.ifCond .ne 5, 3) := by decide +kernel
theorem dX9_spoil_58 : decode cX9_spoil 58 = .ok (.iconst 0, 1) := by decide +kernel
theorem dX9_spoil_59 : decode cX9_spoil 59 = .ok (.ireturn, 1) := by decide +kernel
theorem dX9_spoil_60 : decode cX9_spoil 60 = .ok (.aload_n 0, 1) := by decide +kernel
theorem dX9_spoil_61 : decode cX9_spoil 61 = .ok (.getfield 94, 3) := by decide +kernel
theorem dX9_spoil_64 : decode cX9_spoil 64 = .ok (.bipush 12, 2) := by decide +kernel
theorem dX9_spoil_66 : decode cX9_spoil 66 = .ok (.iload 5, 2) := by decide +kernel
theorem dX9_spoil_68 : decode cX9_spoil 68 = .ok (.imul, 1) := by decide +kernel
theorem dX9_spoil_69 : decode cX9_spoil 69 = .ok (.iload_n 3, 1) := by decide +kernel
theorem dX9_spoil_70 : decode cX9_spoil 70 = .ok (.iadd, 1) := by decide +kernel
theorem dX9_spoil_71 : decode cX9_spoil 71 = .ok (.dup2, 1) := by decide +kernel
theorem dX9_spoil_72 : decode cX9_spoil 72 = .ok (.iaload, 1) := by decide +kernel
theorem dX9_spoil_73 : decode cX9_spoil 73 = .ok (.iload 4, 2) := by decide +kernel
theorem dX9_spoil_75 : decode cX9_spoil 75 = .ok (.ixor, 1) := by decide +kernel
theorem dX9_spoil_76 : decode cX9_spoil 76 = .ok (.iastore, 1) := by decide +kernel
theorem dX9_spoil_77 : decode cX9_spoil 77 = .ok (.iconst 1, 1) := by decide +kernel
theorem dX9_spoil_78 : decode cX9_spoil 78 = .ok (.ireturn, 1) := by decide +kernel
set_option maxRecDepth 20000 in
theorem ggX9_exchange_X9_isIn : GoodIn wsX9_exchange wsX9_isIn := goodIn_r _ [5] (by decide +kernel) (by decide +kernel)
set_option maxRecDepth 20000 in
theorem gX9_exchange_X9_isIn : GoodIn wsX9_exchange (va_wsS RX9 195 yX9_isIn wsX9_isIn) := goodIn_app (goodIn_of _ (by decide +kernel)) ggX9_exchange_X9_isIn
set_option maxRecDepth 20000 in
theorem ggX9_exchange_X9_isNotAbove : GoodIn wsX9_exchange wsX9_isNotAbove := goodIn_r _ [8, 9, 10, 4, 11] (by decide +kernel) (by decide +kernel)
set_option maxRecDepth 20000 in
theorem gX9_exchange_X9_isNotAbove : GoodIn wsX9_exchange (va_wsS RX9 177 yX9_isNotAbove wsX9_isNotAbove) := goodIn_app (goodIn_of _ (by decide +kernel)) ggX9_exchange_X9_isNotAbove
theorem dX9_exchange_0 : decode cX9_exchange 0 = .ok (.iload_n 1, 1) := by decide +kernel
theorem dX9_exchange_1 : decode cX9_exchange 1 = .ok (.iconst 4, 1) := by decide +kernel
theorem dX9_exchange_2 : decode cX9_exchange 2 = .ok (.invokestatic 195, 3) := by decide +kernel
theorem dX9_exchange_5 : decode cX9_exchange 5 = .ok (.ifCond .eq 16, 3) := by decide +kernel
theorem dX9_exchange_8 : decode cX9_exchange 8 = .ok (.iload_n 2, 1) := by decide +kernel
theorem dX9_exchange_9 : decode cX9_exchange 9 = .ok (.iconst 4, 1) := by decide +kernel
theorem dX9_exchange_10 : decode cX9_exchange 10 = .ok (.invokestatic 195, 3) := by decide +kernel
theorem dX9_exchange_13 : decode cX9_exchange 13 = .ok (.ifCond .eq 8, 3) := by decide +kernel
theorem dX9_exchange_16 : decode cX9_exchange 16 = .ok (.iload_n 1, 1) := by decide +kernel
theorem dX9_exchange_17 : decode cX9_exchange 17 = .ok (.iload_n 2, 1) := by decide +kernel
theorem dX9_exchange_18 : decode cX9_exchange 18 = .ok (.if_icmp .ne 5, 3) := by decide +kernel
theorem dX9_exchange_21 : decode cX9_exchange 21 = .ok (.iconst (-1), 1) := by decide +kernel
theorem dX9_exchange_22 : decode cX9_exchange 22 = .ok (.ireturn, 1) := by decide +kernel
theorem dX9_exchange_23 : decode cX9_exchange 23 = .ok (.aload_n 0, 1) := by decide +kernel
theorem dX9_exchange_24 : decode cX9_exchange 24 = .ok (.getfield 91, 3) := by decide +kernel
theorem dX9_exchange_27 : decode cX9_exchange 27 = .ok (.bipush 84, 2) := by decide +kernel
theorem dX9_exchange_29 : decode cX9_exchange 29 = .ok (.iload_n 1, 1) := by decide +kernel
theorem dX9_exchange_30 : decode cX9_exchange 30 = .ok (.imul, 1) := by decide +kernel
theorem dX9_exchange_31 : decode cX9_exchange 31 = .ok (.bipush 84, 2) := by decide +kernel
theorem dX9_exchange_33 : decode cX9_exchange 33 = .ok (.iload_n 2, 1) := by decide +kernel
theorem dX9_exchange_34 : decode cX9_exchange 34 = .ok (.imul, 1) := by decide +kernel
theorem dX9_exchange_35 : decode cX9_exchange 35 = .ok (.invokestatic 177, 3) := by decide +kernel
theorem dX9_exchange_38 : decode cX9_exchange 38 = .ok (.ifCond .ne 21, 3) := by decide +kernel
theorem dX9_exchange_41 : decode cX9_exchange 41 = .ok (.aload_n 0, 1) := by decide +kernel
theorem dX9_exchange_42 : decode cX9_exchange 42 = .ok (.getfield 91, 3) := by decide +kernel
theorem dX9_exchange_45 : decode cX9_exchange 45 = .ok (.bipush 84, 2) := by decide +kernel
theorem dX9_exchange_47 : decode cX9_exchange 47 = .ok (.iload_n 2, 1) := by decide +kernel
theorem dX9_exchange_48 : decode cX9_exchange 48 = .ok (.imul, 1) := by decide +kernel
theorem dX9_exchange_49 : decode cX9_exchange 49 = .ok (.bipush 84, 2) := by decide +kernel
theorem dX9_exchange_51 : decode cX9_exchange 51 = .ok (.iload_n 1, 1) := by decide +kernel
theorem dX9_exchange_52 : decode cX9_exchange 52 = .ok (.imul, 1) := by decide +kernel
theorem dX9_exchange_53 : decode cX9_exchange 53 = .ok (.invokestatic 177, 3) := by decide +kernel
theorem dX9_exchange_56 : decode cX9_exchange 56 = .ok (.ifCond .eq 7, 3) := by decide +kernel
theorem dX9_exchange_59 : decode cX9_exchange 59 = .ok (.iconst 0, 1) := by decide +kernel
theorem dX9_exchange_60 : decode cX9_exchange 60 = .ok (.goto 4, 3) := by decide +kernel
theorem dX9_exchange_63 : decode cX9_exchange 63 = .ok (.iconst 1, 1) := by decide +kernel
theorem dX9_exchange_64 : decode cX9_exchange 64 = .ok (.ireturn, 1) := by decide +kernel
set_option maxRecDepth 20000 in
theorem ggX9_statement_X9_isIn : GoodIn wsX9_statement wsX9_isIn := goodIn_r _ [7] (by decide +kernel) (by decide +kernel)
set_option maxRecDepth 20000 in
theorem gX9_statement_X9_isIn : GoodIn wsX9_statement (va_wsS RX9 195 yX9_isIn wsX9_isIn) := goodIn_app (goodIn_of _ (by decide +kernel)) ggX9_statement_X9_isIn
set_option maxRecDepth 20000 in
theorem ggX9_statement_X9_placeOf : GoodIn wsX9_statement wsX9_placeOf := goodIn_r _ [10] (by decide +kernel) (by decide +kernel)
set_option maxRecDepth 20000 in
theorem gX9_statement_X9_placeOf : GoodIn wsX9_statement (va_wsS RX9 170 yX9_placeOf wsX9_placeOf) := goodIn_app (goodIn_of _ (by decide +kernel)) ggX9_statement_X9_placeOf
theorem dX9_statement_0 : decode cX9_statement 0 = .ok (.iload_n 1, 1) := by decide +kernel
theorem dX9_statement_1 : decode cX9_statement 1 = .ok (.iconst (-1), 1) := by decide +kernel
theorem dX9_statement_2 : decode cX9_statement 2 = .ok (.if_icmp .lt 28, 3) := by decide +kernel
theorem dX9_statement_5 : decode cX9_statement 5 = .ok (.iload_n 1, 1) := by decide +kernel
theorem dX9_statement_6 : decode cX9_statement 6 = .ok (.aload_n 0, 1) := by decide +kernel
theorem dX9_statement_7 : decode cX9_statement 7 = .ok (.getfield 100, 3) := by decide +kernel
theorem dX9_statement_10 : decode cX9_statement 10 = .ok (.if_icmp .ge 20, 3) := by decide +kernel
theorem dX9_statement_13 : decode cX9_statement 13 = .ok (.iload_n 2, 1) := by decide +kernel
theorem dX9_statement_14 : decode cX9_statement 14 = .ok (.iconst 4, 1) := by decide +kernel
theorem dX9_statement_15 : decode cX9_statement 15 = .ok (.invokestatic 195, 3) := by decide +kernel
theorem dX9_statement_18 : decode cX9_statement 18 = .ok (.ifCond .eq 12, 3) := by decide +kernel
theorem dX9_statement_21 : decode cX9_statement 21 = .ok (.iload_n 3, 1) := by decide +kernel
theorem dX9_statement_22 : decode cX9_statement 22 = .ok (.bipush 84, 2) := by decide +kernel
theorem dX9_statement_24 : decode cX9_statement 24 = .ok (.invokestatic 195, 3) := by decide +kernel
theorem dX9_statement_27 : decode cX9_statement 27 = .ok (.ifCond .ne 5, 3) := by decide +kernel
theorem dX9_statement_30 : decode cX9_statement 30 = .ok (.iconst (-1), 1) := by decide +kernel
theorem dX9_statement_31 : decode cX9_statement 31 = .ok (.ireturn, 1) := by decide +kernel
theorem dX9_statement_32 : decode cX9_statement 32 = .ok (.iload_n 1, 1) := by decide +kernel
theorem dX9_statement_33 : decode cX9_statement 33 = .ok (.iconst (-1), 1) := by decide +kernel
theorem dX9_statement_34 : decode cX9_statement 34 = .ok (.if_icmp .ne 17, 3) := by decide +kernel
theorem dX9_statement_37 : decode cX9_statement 37 = .ok (.aload_n 0, 1) := by decide +kernel
theorem dX9_statement_38 : decode cX9_statement 38 = .ok (.getfield 91, 3) := by decide +kernel
theorem dX9_statement_41 : decode cX9_statement 41 = .ok (.bipush 84, 2) := by decide +kernel
theorem dX9_statement_43 : decode cX9_statement 43 = .ok (.iload_n 2, 1) := by decide +kernel
theorem dX9_statement_44 : decode cX9_statement 44 = .ok (.imul, 1) := by decide +kernel
theorem dX9_statement_45 : decode cX9_statement 45 = .ok (.iload_n 3, 1) := by decide +kernel
theorem dX9_statement_46 : decode cX9_statement 46 = .ok (.iadd, 1) := by decide +kernel
theorem dX9_statement_47 : decode cX9_statement 47 = .ok (.iaload, 1) := by decide +kernel
theorem dX9_statement_48 : decode cX9_statement 48 = .ok (.goto 15, 3) := by decide +kernel
theorem dX9_statement_51 : decode cX9_statement 51 = .ok (.aload_n 0, 1) := by decide +kernel
theorem dX9_statement_52 : decode cX9_statement 52 = .ok (.getfield 88, 3) := by decide +kernel
theorem dX9_statement_55 : decode cX9_statement 55 = .ok (.iload_n 1, 1) := by decide +kernel
theorem dX9_statement_56 : decode cX9_statement 56 = .ok (.iload_n 2, 1) := by decide +kernel
theorem dX9_statement_57 : decode cX9_statement 57 = .ok (.invokestatic 170, 3) := by decide +kernel
theorem dX9_statement_60 : decode cX9_statement 60 = .ok (.iload_n 3, 1) := by decide +kernel
theorem dX9_statement_61 : decode cX9_statement 61 = .ok (.iadd, 1) := by decide +kernel
theorem dX9_statement_62 : decode cX9_statement 62 = .ok (.iaload, 1) := by decide +kernel
theorem dX9_statement_63 : decode cX9_statement 63 = .ok (.ireturn, 1) := by decide +kernel
set_option maxRecDepth 20000 in
theorem ggX9_seen_X9_isIn : GoodIn wsX9_seen wsX9_isIn := goodIn_r _ [5] (by decide +kernel) (by decide +kernel)
set_option maxRecDepth 20000 in
theorem gX9_seen_X9_isIn : GoodIn wsX9_seen (va_wsS RX9 195 yX9_isIn wsX9_isIn) := goodIn_app (goodIn_of _ (by decide +kernel)) ggX9_seen_X9_isIn
set_option maxRecDepth 20000 in
theorem ggX9_seen_X9_countAt : GoodIn wsX9_seen wsX9_countAt := goodIn_r _ [8] (by decide +kernel) (by decide +kernel)
set_option maxRecDepth 20000 in
theorem gX9_seen_X9_countAt : GoodIn wsX9_seen (va_wsS RX9 173 yX9_countAt wsX9_countAt) := goodIn_app (goodIn_of _ (by decide +kernel)) ggX9_seen_X9_countAt
theorem dX9_seen_0 : decode cX9_seen 0 = .ok (.iload_n 1, 1) := by decide +kernel
theorem dX9_seen_1 : decode cX9_seen 1 = .ok (.iconst 4, 1) := by decide +kernel
theorem dX9_seen_2 : decode cX9_seen 2 = .ok (.invokestatic 195, 3) := by decide +kernel
theorem dX9_seen_5 : decode cX9_seen 5 = .ok (.ifCond .eq 27, 3) := by decide +kernel
theorem dX9_seen_8 : decode cX9_seen 8 = .ok (.iload_n 2, 1) := by decide +kernel
theorem dX9_seen_9 : decode cX9_seen 9 = .ok (.iconst 4, 1) := by decide +kernel
theorem dX9_seen_10 : decode cX9_seen 10 = .ok (.invokestatic 195, 3) := by decide +kernel
theorem dX9_seen_13 : decode cX9_seen 13 = .ok (.ifCond .eq 19, 3) := by decide +kernel
theorem dX9_seen_16 : decode cX9_seen 16 = .ok (.aload_n 0, 1) := by decide +kernel
theorem dX9_seen_17 : decode cX9_seen 17 = .ok (.getfield 91, 3) := by decide +kernel
theorem dX9_seen_20 : decode cX9_seen 20 = .ok (.bipush 84, 2) := by decide +kernel
theorem dX9_seen_22 : decode cX9_seen 22 = .ok (.iload_n 1, 1) := by decide +kernel
theorem dX9_seen_23 : decode cX9_seen 23 = .ok (.imul, 1) := by decide +kernel
theorem dX9_seen_24 : decode cX9_seen 24 = .ok (.iload_n 2, 1) := by decide +kernel
theorem dX9_seen_25 : decode cX9_seen 25 = .ok (.invokestatic 173, 3) := by decide +kernel
theorem dX9_seen_28 : decode cX9_seen 28 = .ok (.l2i, 1) := by decide +kernel
theorem dX9_seen_29 : decode cX9_seen 29 = .ok (.goto 4, 3) := by decide +kernel
theorem dX9_seen_32 : decode cX9_seen 32 = .ok (.iconst (-1), 1) := by decide +kernel
theorem dX9_seen_33 : decode cX9_seen 33 = .ok (.ireturn, 1) := by decide +kernel
set_option maxRecDepth 20000 in
theorem ggX9_digest_X9_isIn : GoodIn wsX9_digest wsX9_isIn := goodIn_r _ [10] (by decide +kernel) (by decide +kernel)
set_option maxRecDepth 20000 in
theorem gX9_digest_X9_isIn : GoodIn wsX9_digest (va_wsS RX9 195 yX9_isIn wsX9_isIn) := goodIn_app (goodIn_of _ (by decide +kernel)) ggX9_digest_X9_isIn
set_option maxRecDepth 20000 in
theorem ggX9_digest_X9_mac : GoodIn wsX9_digest wsX9_mac := goodIn_r _ [14, 5, 2, 3, 15, 6, 16, 17, 18, 9, 19, 20, 21, 22, 23, 24, 25, 26, 27, 28, 29, 30, 31, 32, 33, 34, 35, 36, 37, 38, 39, 40, 41, 42, 43, 44, 45, 46, 47, 48, 49, 50, 51, 52, 53, 54, 55, 56, 57, 58, 59, 60, 61, 62] (by decide +kernel) (by decide +kernel)
set_option maxRecDepth 20000 in
theorem gX9_digest_X9_mac : GoodIn wsX9_digest (wsV RX9 167 RX9 yX9_mac wsX9_mac) := goodIn_app (goodIn_of _ (by decide +kernel)) ggX9_digest_X9_mac
set_option maxRecDepth 20000 in
theorem ggX9_digest_X9_add : GoodIn wsX9_digest wsX9_add := goodIn_r _ [23, 24, 5, 40, 41, 42, 43, 44, 45, 46, 47, 48, 49, 50, 51, 52, 53, 54, 55, 56, 57, 58, 59, 60, 61, 62] (by decide +kernel) (by decide +kernel)
set_option maxRecDepth 20000 in
theorem gX9_digest_X9_add : GoodIn wsX9_digest (wsV RX9 152 RX9 yX9_add wsX9_add) := goodIn_app (goodIn_of _ (by decide +kernel)) ggX9_digest_X9_add
set_option maxRecDepth 20000 in
theorem ggX9_digest_X9_hash : GoodIn wsX9_digest wsX9_hash := goodIn_r _ [28, 5, 29, 30, 6, 20, 21, 22, 9, 23, 24, 31, 32, 33, 34, 35, 36, 37, 38, 39, 40, 41, 42, 43, 44, 45, 46, 47, 48, 49, 50, 51, 52, 53, 54, 55, 56, 57, 58, 59, 60, 61, 62] (by decide +kernel) (by decide +kernel)
set_option maxRecDepth 20000 in
theorem gX9_digest_X9_hash : GoodIn wsX9_digest (wsV RX9 164 RX9 yX9_hash wsX9_hash) := goodIn_app (goodIn_of _ (by decide +kernel)) ggX9_digest_X9_hash
theorem dX9_digest_0 : decode cX9_digest 0 = .ok (.iload_n 1, 1) := by decide +kernel
theorem dX9_digest_1 : decode cX9_digest 1 = .ok (.ifCond .lt 17, 3) := by decide +kernel
theorem dX9_digest_4 : decode cX9_digest 4 = .ok (.iload_n 1, 1) := by decide +kernel
theorem dX9_digest_5 : decode cX9_digest 5 = .ok (.iconst 1, 1) := by decide +kernel
theorem dX9_digest_6 : decode cX9_digest 6 = .ok (.if_icmp .gt 12, 3) := by decide +kernel
theorem dX9_digest_9 : decode cX9_digest 9 = .ok (.iload_n 2, 1) := by decide +kernel
theorem dX9_digest_10 : decode cX9_digest 10 = .ok (.bipush 32, 2) := by decide +kernel
theorem dX9_digest_12 : decode cX9_digest 12 = .ok (.invokestatic 195, 3) := by decide +kernel
theorem dX9_digest_15 : decode cX9_digest 15 = .ok (.ifCond .ne 5, 3) := by decide +kernel
theorem dX9_digest_18 : decode cX9_digest 18 = .ok (.iconst (-1), 1) := by decide +kernel
theorem dX9_digest_19 : decode cX9_digest 19 = .ok (.ireturn, 1) := by decide +kernel
theorem dX9_digest_20 : decode cX9_digest 20 = .ok (.aload_n 0, 1) := by decide +kernel
theorem dX9_digest_21 : decode cX9_digest 21 = .ok (.aload_n 0, 1) := by decide +kernel
theorem dX9_digest_22 : decode cX9_digest 22 = .ok (.getfield 192, 3) := by decide +kernel
theorem dX9_digest_25 : decode cX9_digest 25 = .ok (.putfield 161, 3) := by decide +kernel
theorem dX9_digest_28 : decode cX9_digest 28 = .ok (.iconst 0, 1) := by decide +kernel
theorem dX9_digest_29 : decode cX9_digest 29 = .ok (.istore_n 3, 1) := by decide +kernel
theorem dX9_digest_30 : decode cX9_digest 30 = .ok (.iload_n 3, 1) := by decide +kernel
theorem dX9_digest_31 : decode cX9_digest 31 = .ok (.aload_n 0, 1) := by decide +kernel
theorem dX9_digest_32 : decode cX9_digest 32 = .ok (.getfield 192, 3) := by decide +kernel
theorem dX9_digest_35 : decode cX9_digest 35 = .ok (.if_icmp .ge 21, 3) := by decide +kernel
theorem dX9_digest_38 : decode cX9_digest 38 = .ok (.aload_n 0, 1) := by decide +kernel
theorem dX9_digest_39 : decode cX9_digest 39 = .ok (.getfield 131, 3) := by decide +kernel
theorem dX9_digest_42 : decode cX9_digest 42 = .ok (.iload_n 3, 1) := by decide +kernel
theorem dX9_digest_43 : decode cX9_digest 43 = .ok (.aload_n 0, 1) := by decide +kernel
theorem dX9_digest_44 : decode cX9_digest 44 = .ok (.getfield 107, 3) := by decide +kernel
theorem dX9_digest_47 : decode cX9_digest 47 = .ok (.iload_n 3, 1) := by decide +kernel
theorem dX9_digest_48 : decode cX9_digest 48 = .ok (.iaload, 1) := by decide +kernel
theorem dX9_digest_49 : decode cX9_digest 49 = .ok (.iastore, 1) := by decide +kernel
theorem dX9_digest_50 : decode cX9_digest 50 = .ok (.iinc 3 1, 3) := by decide +kernel
theorem dX9_digest_53 : decode cX9_digest 53 = .ok (.goto (-23), 3) := by decide +kernel
theorem dX9_digest_56 : decode cX9_digest 56 = .ok (.iload_n 1, 1) := by decide +kernel
theorem dX9_digest_57 : decode cX9_digest 57 = .ok (.iconst 1, 1) := by decide +kernel
theorem dX9_digest_58 : decode cX9_digest 58 = .ok (.if_icmp .ne 10, 3) := by decide +kernel
theorem dX9_digest_61 : decode cX9_digest 61 = .ok (.aload_n 0, 1) := by decide +kernel
theorem dX9_digest_62 : decode cX9_digest 62 = .ok (.invokevirtual 167, 3) := by decide +kernel
theorem dX9_digest_65 : decode cX9_digest 65 = .ok (.goto 38, 3) := by decide +kernel
theorem dX9_digest_68 : decode cX9_digest 68 = .ok (.aload_n 0, 1) := by decide +kernel
theorem dX9_digest_69 : decode cX9_digest 69 = .ok (.iconst 0, 1) := by decide +kernel
theorem dX9_digest_70 : decode cX9_digest 70 = .ok (.putfield 145, 3) := by decide +kernel
theorem dX9_digest_73 : decode cX9_digest 73 = .ok (.iconst 0, 1) := by decide +kernel
theorem dX9_digest_74 : decode cX9_digest 74 = .ok (.istore_n 3, 1) := by decide +kernel
theorem dX9_digest_75 : decode cX9_digest 75 = .ok (.iload_n 3, 1) := by decide +kernel
theorem dX9_digest_76 : decode cX9_digest 76 = .ok (.aload_n 0, 1) := by decide +kernel
theorem dX9_digest_77 : decode cX9_digest 77 = .ok (.getfield 192, 3) := by decide +kernel
theorem dX9_digest_80 : decode cX9_digest 80 = .ok (.if_icmp .ge 19, 3) := by decide +kernel
theorem dX9_digest_83 : decode cX9_digest 83 = .ok (.aload_n 0, 1) := by decide +kernel
theorem dX9_digest_84 : decode cX9_digest 84 = .ok (.aload_n 0, 1) := by decide +kernel
theorem dX9_digest_85 : decode cX9_digest 85 = .ok (.getfield 107, 3) := by decide +kernel
theorem dX9_digest_88 : decode cX9_digest 88 = .ok (.iload_n 3, 1) := by decide +kernel
theorem dX9_digest_89 : decode cX9_digest 89 = .ok (.iaload, 1) := by decide +kernel
theorem dX9_digest_90 : decode cX9_digest 90 = .ok (.invokevirtual 152, 3) := by decide +kernel
theorem dX9_digest_93 : decode cX9_digest 93 = .ok (.iinc 3 1, 3) := by decide +kernel
theorem dX9_digest_96 : decode cX9_digest 96 = .ok (.goto (-21), 3) := by decide +kernel
theorem dX9_digest_99 : decode cX9_digest 99 = .ok (.aload_n 0, 1) := by decide +kernel
theorem dX9_digest_100 : decode cX9_digest 100 = .ok (.invokevirtual 164, 3) := by decide +kernel
theorem dX9_digest_103 : decode cX9_digest 103 = .ok (.aload_n 0, 1) := by decide +kernel
theorem dX9_digest_104 : decode cX9_digest 104 = .ok (.getfield 116, 3) := by decide +kernel
theorem dX9_digest_107 : decode cX9_digest 107 = .ok (.iload_n 2, 1) := by decide +kernel
theorem dX9_digest_108 : decode cX9_digest 108 = .ok (.iaload, 1) := by decide +kernel
theorem dX9_digest_109 : decode cX9_digest 109 = .ok (.ireturn, 1) := by decide +kernel
theorem dX9_plain_0 : decode cX9_plain 0 = .ok (.iconst 1, 1) := by decide +kernel
theorem dX9_plain_1 : decode cX9_plain 1 = .ok (.ireturn, 1) := by decide +kernel
theorem dX9_count_0 : decode cX9_count 0 = .ok (.iload_n 1, 1) := by decide +kernel
theorem dX9_count_1 : decode cX9_count 1 = .ok (.tableswitch 51 0 3 #[31, 36, 41, 46], 31) := by decide +kernel
theorem dX9_count_32 : decode cX9_count 32 = .ok (.aload_n 0, 1) := by decide +kernel
theorem dX9_count_33 : decode cX9_count 33 = .ok (.getfield 100, 3) := by decide +kernel
theorem dX9_count_36 : decode cX9_count 36 = .ok (.ireturn, 1) := by decide +kernel
theorem dX9_count_37 : decode cX9_count 37 = .ok (.aload_n 0, 1) := by decide +kernel
theorem dX9_count_38 : decode cX9_count 38 = .ok (.getfield 189, 3) := by decide +kernel
theorem dX9_count_41 : decode cX9_count 41 = .ok (.ireturn, 1) := by decide +kernel
theorem dX9_count_42 : decode cX9_count 42 = .ok (.aload_n 0, 1) := by decide +kernel
theorem dX9_count_43 : decode cX9_count 43 = .ok (.getfield 201, 3) := by decide +kernel
theorem dX9_count_46 : decode cX9_count 46 = .ok (.ireturn, 1) := by decide +kernel
theorem dX9_count_47 : decode cX9_count 47 = .ok (.aload_n 0, 1) := by decide +kernel
theorem dX9_count_48 : decode cX9_count 48 = .ok (.getfield 192, 3) := by decide +kernel
theorem dX9_count_51 : decode cX9_count 51 = .ok (.ireturn, 1) := by decide +kernel
theorem dX9_count_52 : decode cX9_count 52 = .ok (.iload_n 1, 1) := by decide +kernel
theorem dX9_count_53 : decode cX9_count 53 = .ok (.iconst 4, 1) := by decide +kernel
theorem dX9_count_54 : decode cX9_count 54 = .ok (.if_icmp .lt 20, 3) := by decide +kernel
theorem dX9_count_57 : decode cX9_count 57 = .ok (.iload_n 1, 1) := by decide +kernel
theorem dX9_count_58 : decode cX9_count 58 = .ok (.bipush 8, 2) := by decide +kernel
theorem dX9_count_60 : decode cX9_count 60 = .ok (.if_icmp .ge 14, 3) := by decide +kernel
theorem dX9_count_63 : decode cX9_count 63 = .ok (.aload_n 0, 1) := by decide +kernel
theorem dX9_count_64 : decode cX9_count 64 = .ok (.getfield 104, 3) := by decide +kernel
theorem dX9_count_67 : decode cX9_count 67 = .ok (.iload_n 1, 1) := by decide +kernel
theorem dX9_count_68 : decode cX9_count 68 = .ok (.iconst 4, 1) := by decide +kernel
theorem dX9_count_69 : decode cX9_count 69 = .ok (.isub, 1) := by decide +kernel
theorem dX9_count_70 : decode cX9_count 70 = .ok (.iaload, 1) := by decide +kernel
theorem dX9_count_71 : decode cX9_count 71 = .ok (.goto 4, 3) := by decide +kernel
theorem dX9_count_74 : decode cX9_count 74 = .ok (.iconst (-1), 1) := by decide +kernel
theorem dX9_count_75 : decode cX9_count 75 = .ok (.ireturn, 1) := by decide +kernel
