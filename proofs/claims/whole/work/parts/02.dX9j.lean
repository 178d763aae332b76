theorem dX9_split_38 : decode cX9_split 38 = .ok (.aload_n 0, 1) := by decide +kernel
theorem dX9_split_39 : decode cX9_split 39 = .ok (.getfield 100, 3) := by decide +kernel
theorem dX9_split_42 : decode cX9_split 42 = .ok (.imul, 1) := by decide +kernel
theorem dX9_split_43 : decode cX9_split 43 = .ok (.iload_n 2, 1) := by decide +kernel
theorem dX9_split_44 : decode cX9_split 44 = .ok (.iadd, 1) := by decide +kernel
theorem dX9_split_45 : decode cX9_split 45 = .ok (.aload_n 0, 1) := by decide +kernel
theorem dX9_split_46 : decode cX9_split 46 = .ok (.getfield 88, 3) := by decide +kernel
theorem dX9_split_49 : decode cX9_split 49 = .ok (.sipush 336, 3) := by decide +kernel
theorem dX9_split_52 : decode cX9_split 52 = .ok (.iload_n 1, 1) := by decide +kernel
theorem dX9_split_53 : decode cX9_split 53 = .ok (.imul, 1) := by decide +kernel
theorem dX9_split_54 : decode cX9_split 54 = .ok (.iload_n 2, 1) := by decide +kernel
theorem dX9_split_55 : decode cX9_split 55 = .ok (.iadd, 1) := by decide +kernel
theorem dX9_split_56 : decode cX9_split 56 = .ok (.iaload, 1) := by decide +kernel
theorem dX9_split_57 : decode cX9_split 57 = .ok (.iastore, 1) := by decide +kernel
theorem dX9_split_58 : decode cX9_split 58 = .ok (.iinc 2 1, 3) := by decide +kernel
theorem dX9_split_61 : decode cX9_split 61 = .ok (.goto (-37), 3) := by decide +kernel
theorem dX9_split_64 : decode cX9_split 64 = .ok (.iconst 0, 1) := by decide +kernel
theorem dX9_split_65 : decode cX9_split 65 = .ok (.istore_n 2, 1) := by decide +kernel
theorem dX9_split_66 : decode cX9_split 66 = .ok (.iload_n 2, 1) := by decide +kernel
theorem dX9_split_67 : decode cX9_split 67 = .ok (.sipush 192, 3) := by decide +kernel
theorem dX9_split_70 : decode cX9_split 70 = .ok (.if_icmp .ge 36, 3) := by decide +kernel
theorem dX9_split_73 : decode cX9_split 73 = .ok (.aload_n 0, 1) := by decide +kernel
theorem dX9_split_74 : decode cX9_split 74 = .ok (.getfield 94, 3) := by decide +kernel
theorem dX9_split_77 : decode cX9_split 77 = .ok (.sipush 192, 3) := by decide +kernel
theorem dX9_split_80 : decode cX9_split 80 = .ok (.aload_n 0, 1) := by decide +kernel
theorem dX9_split_81 : decode cX9_split 81 = .ok (.getfield 100, 3) := by decide +kernel
theorem dX9_split_84 : decode cX9_split 84 = .ok (.imul, 1) := by decide +kernel
theorem dX9_split_85 : decode cX9_split 85 = .ok (.iload_n 2, 1) := by decide +kernel
theorem dX9_split_86 : decode cX9_split 86 = .ok (.iadd, 1) := by decide +kernel
theorem dX9_split_87 : decode cX9_split 87 = .ok (.aload_n 0, 1) := by decide +kernel
theorem dX9_split_88 : decode cX9_split 88 = .ok (.getfield 94, 3) := by decide +kernel
theorem dX9_split_91 : decode cX9_split 91 = .ok (.sipush 192, 3) := by decide +kernel
theorem dX9_split_94 : decode cX9_split 94 = .ok (.iload_n 1, 1) := by decide +kernel
theorem dX9_split_95 : decode cX9_split 95 = .ok (.imul, 1) := by decide +kernel
theorem dX9_split_96 : decode cX9_split 96 = .ok (.iload_n 2, 1) := by decide +kernel
theorem dX9_split_97 : decode cX9_split 97 = .ok (.iadd, 1) := by decide +kernel
theorem dX9_split_98 : decode cX9_split 98 = .ok (.iaload, 1) := by decide +kernel
theorem dX9_split_99 : decode cX9_split 99 = .ok (.iastore, 1) := by decide +kernel
theorem dX9_split_100 : decode cX9_split 100 = .ok (.iinc 2 1, 3) := by decide +kernel
theorem dX9_split_103 : decode cX9_split 103 = .ok (.goto (-37), 3) := by decide +kernel
theorem dX9_split_106 : decode cX9_split 106 = .ok (.iconst 0, 1) := by decide +kernel
theorem dX9_split_107 : decode cX9_split 107 = .ok (.istore_n 2, 1) := by decide +kernel
theorem dX9_split_108 : decode cX9_split 108 = .ok (.iload_n 2, 1) := by decide +kernel
theorem dX9_split_109 : decode cX9_split 109 = .ok (.bipush 16, 2) := by decide +kernel
theorem dX9_split_111 : decode cX9_split 111 = .ok (.if_icmp .ge 34, 3) := by decide +kernel
theorem dX9_split_114 : decode cX9_split 114 = .ok (.aload_n 0, 1) := by decide +kernel
theorem dX9_split_115 : decode cX9_split 115 = .ok (.getfield 97, 3) := by decide +kernel
theorem dX9_split_118 : decode cX9_split 118 = .ok (.bipush 16, 2) := by decide +kernel
theorem dX9_split_120 : decode cX9_split 120 = .ok (.aload_n 0, 1) := by decide +kernel
theorem dX9_split_121 : decode cX9_split 121 = .ok (.getfield 100, 3) := by decide +kernel
theorem dX9_split_124 : decode cX9_split 124 = .ok (.imul, 1) := by decide +kernel
theorem dX9_split_125 : decode cX9_split 125 = .ok (.iload_n 2, 1) := by decide +kernel
theorem dX9_split_126 : decode cX9_split 126 = .ok (.iadd, 1) := by decide +kernel
theorem dX9_split_127 : decode cX9_split 127 = .ok (.aload_n 0, 1) := by decide +kernel
theorem dX9_split_128 : decode cX9_split 128 = .ok (.getfield 97, 3) := by decide +kernel
theorem dX9_split_131 : decode cX9_split 131 = .ok (.bipush 16, 2) := by decide +kernel
theorem dX9_split_133 : decode cX9_split 133 = .ok (.iload_n 1, 1) := by decide +kernel
theorem dX9_split_134 : decode cX9_split 134 = .ok (.imul, 1) := by decide +kernel
theorem dX9_split_135 : decode cX9_split 135 = .ok (.iload_n 2, 1) := by decide +kernel
theorem dX9_split_136 : decode cX9_split 136 = .ok (.iadd, 1) := by decide +kernel
theorem dX9_split_137 : decode cX9_split 137 = .ok (.iaload, 1) := by decide +kernel
theorem dX9_split_138 : decode cX9_split 138 = .ok (.iastore, 1) := by decide +kernel
theorem dX9_split_139 : decode cX9_split 139 = .ok (.iinc 2 1, 3) := by decide +kernel
theorem dX9_split_142 : decode cX9_split 142 = .ok (.goto (-34), 3) := by decide +kernel
theorem dX9_split_145 : decode cX9_split 145 = .ok (.aload_n 0, 1) := by decide +kernel
theorem dX9_split_146 : decode cX9_split 146 = .ok (.dup, 1) := by decide +kernel
theorem dX9_split_147 : decode cX9_split 147 = .ok (.getfield 100, 3) := by decide +kernel
theorem dX9_split_150 : decode cX9_split 150 = .ok (.iconst 1, 1) := by decide +kernel
theorem dX9_split_151 : decode cX9_split 151 = .ok (.iadd, 1) := by decide +kernel
theorem dX9_split_152 : decode cX9_split 152 = .ok (.putfield 100, 3) := by decide +kernel
theorem dX9_split_155 : decode cX9_split 155 = .ok (.aload_n 0, 1) := by decide +kernel
theorem dX9_split_156 : decode cX9_split 156 = .ok (.getfield 100, 3) := by decide +kernel
theorem dX9_split_159 : decode cX9_split 159 = .ok (.iconst 1, 1) := by decide +kernel
theorem dX9_split_160 : decode cX9_split 160 = .ok (.isub, 1) := by decide +kernel
theorem dX9_split_161 : decode cX9_split 161 = .ok (.ireturn, 1) := by decide +kernel
set_option maxRecDepth 20000 in
theorem ggX9_show_X9_isIn : GoodIn wsX9_show wsX9_isIn := goodIn_r _ [6] (by decide +kernel) (by decide +kernel)
set_option maxRecDepth 20000 in
theorem gX9_show_X9_isIn : GoodIn wsX9_show (va_wsS RX9 195 yX9_isIn wsX9_isIn) := goodIn_app (goodIn_of _ (by decide +kernel)) ggX9_show_X9_isIn
theorem dX9_show_0 : decode cX9_show 0 = .ok (.iload_n 1, 1) := by decide +kernel
theorem dX9_show_1 : decode cX9_show 1 = .ok (.iconst 4, 1) := by decide +kernel
theorem dX9_show_2 : decode cX9_show 2 = .ok (.invokestatic 195, 3) := by decide +kernel
theorem dX9_show_5 : decode cX9_show 5 = .ok (.ifCond .eq 14, 3) := by decide +kernel
theorem dX9_show_8 : decode cX9_show 8 = .ok (.iload_n 2, 1) := by decide +kernel
theorem dX9_show_9 : decode cX9_show 9 = .ok (.aload_n 0, 1) := by decide +kernel
theorem dX9_show_10 : decode cX9_show 10 = .ok (.getfield 100, 3) := by decide +kernel
theorem dX9_show_13 : decode cX9_show 13 = .ok (.invokestatic 195, 3) := by decide +kernel
theorem dX9_show_16 : decode cX9_show 16 = .ok (.ifCond .ne 5, 3) := by decide +kernel
theorem dX9_show_19 : decode cX9_show 19 = .ok (.iconst (-1), 1) := by decide +kernel
theorem dX9_show_20 : decode cX9_show 20 = .ok (.ireturn, 1) := by decide +kernel
theorem dX9_show_21 : decode cX9_show 21 = .ok (.aload_n 0, 1) := by decide +kernel
theorem dX9_show_22 : decode cX9_show 22 = .ok (.getfield 104, 3) := by decide +kernel
theorem dX9_show_25 : decode cX9_show 25 = .ok (.iload_n 1, 1) := by decide +kernel
theorem dX9_show_26 : decode cX9_show 26 = .ok (.iaload, 1) := by decide +kernel
theorem dX9_show_27 : decode cX9_show 27 = .ok (.istore_n 3, 1) := by decide +kernel
theorem dX9_show_28 : decode cX9_show 28 = .ok (.aload_n 0, 1) := by decide +kernel
theorem dX9_show_29 : decode cX9_show 29 = .ok (.getfield 104, 3) := by decide +kernel
theorem dX9_show_32 : decode cX9_show 32 = .ok (.iload_n 1, 1) := by decide +kernel
theorem dX9_show_33 : decode cX9_show 33 = .ok (.iload_n 2, 1) := by decide +kernel
theorem dX9_show_34 : decode cX9_show 34 = .ok (.iastore, 1) := by decide +kernel
theorem dX9_show_35 : decode cX9_show 35 = .ok (.iload_n 3, 1) := by decide +kernel
theorem dX9_show_36 : decode cX9_show 36 = .ok (.ireturn, 1) := by decide +kernel
set_option maxRecDepth 20000 in
theorem ggX9_graft_X9_isIn : GoodIn wsX9_graft wsX9_isIn := goodIn_r _ [6] (by decide +kernel) (by decide +kernel)
set_option maxRecDepth 20000 in
theorem gX9_graft_X9_isIn : GoodIn wsX9_graft (va_wsS RX9 195 yX9_isIn wsX9_isIn) := goodIn_app (goodIn_of _ (by decide +kernel)) ggX9_graft_X9_isIn
set_option maxRecDepth 20000 in
theorem ggX9_graft_X9_placeOf : GoodIn wsX9_graft wsX9_placeOf := goodIn_r _ [9] (by decide +kernel) (by decide +kernel)
set_option maxRecDepth 20000 in
theorem gX9_graft_X9_placeOf : GoodIn wsX9_graft (va_wsS RX9 170 yX9_placeOf wsX9_placeOf) := goodIn_app (goodIn_of _ (by decide +kernel)) ggX9_graft_X9_placeOf
theorem dX9_graft_0 : decode cX9_graft 0 = .ok (.iload_n 1, 1) := by decide +kernel
theorem dX9_graft_1 : decode cX9_graft 1 = .ok (.aload_n 0, 1) := by decide +kernel
theorem dX9_graft_2 : decode cX9_graft 2 = .ok (.getfield 100, 3) := by decide +kernel
theorem dX9_graft_5 : decode cX9_graft 5 = .ok (.invokestatic 195, 3) := by decide +kernel
theorem dX9_graft_8 : decode cX9_graft 8 = .ok (.ifCond .eq 22, 3) := by decide +kernel
theorem dX9_graft_11 : decode cX9_graft 11 = .ok (.iload_n 2, 1) := by decide +kernel
theorem dX9_graft_12 : decode cX9_graft 12 = .ok (.iconst 4, 1) := by decide +kernel
theorem dX9_graft_13 : decode cX9_graft 13 = .ok (.invokestatic 195, 3) := by decide +kernel
theorem dX9_graft_16 : decode cX9_graft 16 = .ok (.ifCond .eq 14, 3) := by decide +kernel
theorem dX9_graft_19 : decode cX9_graft 19 = .ok (.iload_n 3, 1) := by decide +kernel
theorem dX9_graft_20 : decode cX9_graft 20 = .ok (.aload_n 0, 1) := by decide +kernel
theorem dX9_graft_21 : decode cX9_graft 21 = .ok (.getfield 100, 3) := by decide +kernel
theorem dX9_graft_24 : decode cX9_graft 24 = .ok (.invokestatic 195, 3) := by decide +kernel
theorem dX9_graft_27 : decode cX9_graft 27 = .ok (.ifCond .ne 5, 3) := by decide +kernel
theorem dX9_graft_30 : decode cX9_graft 30 = .ok (.iconst 0, 1) := by decide +kernel
theorem dX9_graft_31 : decode cX9_graft 31 = .ok (.ireturn, 1) := by decide +kernel
theorem dX9_graft_32 : decode cX9_graft 32 = .ok (.iconst 0, 1) := by decide +kernel
theorem dX9_graft_33 : decode cX9_graft 33 = .ok (.istore 4, 2) := by decide +kernel
theorem dX9_graft_35 : decode cX9_graft 35 = .ok (.iload 4, 2) := by decide +kernel
theorem dX9_graft_37 : decode cX9_graft 37 = .ok (.bipush 84, 2) := by decide +kernel
theorem dX9_graft_39 : decode cX9_graft 39 = .ok (.if_icmp .ge 35, 3) := by decide +kernel
theorem dX9_graft_42 : decode cX9_graft 42 = .ok (.aload_n 0, 1) := by decide +kernel
theorem dX9_graft_43 : decode cX9_graft 43 = .ok (.getfield 88, 3) := by decide +kernel
theorem dX9_graft_46 : decode cX9_graft 46 = .ok (.iload_n 1, 1) := by decide +kernel
theorem dX9_graft_47 : decode cX9_graft 47 = .ok (.iload_n 2, 1) := by decide +kernel
theorem dX9_graft_48 : decode cX9_graft 48 = .ok (.invokestatic 170, 3) := by decide +kernel
theorem dX9_graft_51 : decode cX9_graft 51 = .ok (.iload 4, 2) := by decide +kernel
theorem dX9_graft_53 : decode cX9_graft 53 = .ok (.iadd, 1) := by decide +kernel
theorem dX9_graft_54 : decode cX9_graft 54 = .ok (.aload_n 0, 1) := by decide +kernel
theorem dX9_graft_55 : decode cX9_graft 55 = .ok (.getfield 88, 3) := by decide +kernel
theorem dX9_graft_58 : decode cX9_graft 58 = .ok (.iload_n 3, 1) := by decide +kernel
theorem dX9_graft_59 : decode cX9_graft 59 = .ok (.iload_n 2, 1) := by decide +kernel
theorem dX9_graft_60 : decode cX9_graft 60 = .ok (.invokestatic 170, 3) := by decide +kernel
theorem dX9_graft_63 : decode cX9_graft 63 = .ok (.iload 4, 2) := by decide +kernel
theorem dX9_graft_65 : decode cX9_graft 65 = .ok (.iadd, 1) := by decide +kernel
theorem dX9_graft_66 : decode cX9_graft 66 = .ok (.iaload, 1) := by decide +kernel
theorem dX9_graft_67 : decode cX9_graft 67 = .ok (.iastore, 1) := by decide +kernel
theorem dX9_graft_68 : decode cX9_graft 68 = .ok (.iinc 4 1, 3) := by decide +kernel
theorem dX9_graft_71 : decode cX9_graft 71 = .ok (.goto (-36), 3) := by decide +kernel
theorem dX9_graft_74 : decode cX9_graft 74 = .ok (.iconst 1, 1) := by decide +kernel
theorem dX9_graft_75 : decode cX9_graft 75 = .ok (.ireturn, 1) := by decide +kernel
set_option maxRecDepth 20000 in
theorem ggX9_poke_X9_isIn : GoodIn wsX9_poke wsX9_isIn := goodIn_r _ [6] (by decide +kernel) (by decide +kernel)
set_option maxRecDepth 20000 in
theorem gX9_poke_X9_isIn : GoodIn wsX9_poke (va_wsS RX9 195 yX9_isIn wsX9_isIn) := goodIn_app (goodIn_of _ (by decide +kernel)) ggX9_poke_X9_isIn
set_option maxRecDepth 20000 in
theorem ggX9_poke_X9_placeOf : GoodIn wsX9_poke wsX9_placeOf := goodIn_r _ [9] (by decide +kernel) (by decide +kernel)
set_option maxRecDepth 20000 in
theorem gX9_poke_X9_placeOf : GoodIn wsX9_poke (va_wsS RX9 170 yX9_placeOf wsX9_placeOf) := goodIn_app (goodIn_of _ (by decide +kernel)) ggX9_poke_X9_placeOf
theorem dX9_poke_0 : decode cX9_poke 0 = .ok (.iload_n 1, 1) := by decide +kernel
theorem dX9_poke_1 : decode cX9_poke 1 = .ok (.aload_n 0, 1) := by decide +kernel
theorem dX9_poke_2 : decode cX9_poke 2 = .ok (.getfield 100, 3) := by decide +kernel
theorem dX9_poke_5 : decode cX9_poke 5 = .ok (.invokestatic 195, 3) := by decide +kernel
theorem dX9_poke_8 : decode cX9_poke 8 = .ok (.ifCond .eq 34, 3) := by decide +kernel
theorem dX9_poke_11 : decode cX9_poke 11 = .ok (.iload_n 2, 1) := by decide +kernel
theorem dX9_poke_12 : decode cX9_poke 12 = .ok (.iconst 4, 1) := by decide +kernel
theorem dX9_poke_13 : decode cX9_poke 13 = .ok (.invokestatic 195, 3) := by decide +kernel
theorem dX9_poke_16 : decode cX9_poke 16 = .ok (.ifCond .eq 26, 3) := by decide +kernel
theorem dX9_poke_19 : decode cX9_poke 19 = .ok (.iload_n 3, 1) := by decide +kernel
theorem dX9_poke_20 : decode cX9_poke 20 = .ok (.bipush 84, 2) := by decide +kernel
theorem dX9_poke_22 : decode cX9_poke 22 = .ok (.invokestatic 195, 3) := by decide +kernel
theorem dX9_poke_25 : decode cX9_poke 25 = .ok (.ifCond .eq 17, 3) := by decide +kernel
theorem dX9_poke_28 : decode cX9_poke 28 = .ok (.iload 4, 2) := by decide +kernel
theorem dX9_poke_30 : decode cX9_poke 30 = .ok (.iconst 1, 1) := by decide +kernel
theorem dX9_poke_31 : decode cX9_poke 31 = .ok (.if_icmp .lt 11, 3) := by decide +kernel
theorem dX9_poke_34 : decode cX9_poke 34 = .ok (.iload 4, 2) := by decide +kernel
theorem dX9_poke_36 : decode cX9_poke 36 = .ok (.sipush 255, 3) := by decide +kernel
theorem dX9_poke_39 : decode cX9_poke 39 = .ok (.if_icmp .le 5, 3) := by decide +kernel
theorem dX9_poke_42 : decode cX9_poke 42 = .ok (.iconst 0, 1) := by decide +kernel
theorem dX9_poke_43 : decode cX9_poke 43 = .ok (.ireturn, 1) := by decide +kernel
theorem dX9_poke_44 : decode cX9_poke 44 = .ok (.aload_n 0, 1) := by decide +kernel
theorem dX9_poke_45 : decode cX9_poke 45 = .ok (.getfield 88, 3) := by decide +kernel
theorem dX9_poke_48 : decode cX9_poke 48 = .ok (.iload_n 1, 1) := by decide +kernel
theorem dX9_poke_49 : decode cX9_poke 49 = .ok (.iload_n 2, 1) := by decide +kernel
theorem dX9_poke_50 : decode cX9_poke 50 = .ok (.invokestatic 170, 3) := by decide +kernel
theorem dX9_poke_53 : decode cX9_poke 53 = .ok (.iload_n 3, 1) := by decide +kernel
theorem dX9_poke_54 : decode cX9_poke 54 = .ok (.iadd, 1) := by decide +kernel
theorem dX9_poke_55 : decode cX9_poke 55 = .ok (.dup2, 1) := by decide +kernel
theorem dX9_poke_56 : decode cX9_poke 56 = .ok (.iaload, 1) := by decide +kernel
theorem dX9_poke_57 : decode cX9_poke 57 = .ok (.iload 4, 2) := by decide +kernel
theorem dX9_poke_59 : decode cX9_poke 59 = .ok (.ixor, 1) := by decide +kernel
theorem dX9_poke_60 : decode cX9_poke 60 = .ok (.iastore, 1) := by decide +kernel
theorem dX9_poke_61 : decode cX9_poke 61 = .ok (.iconst 1, 1) := by decide +kernel
theorem dX9_poke_62 : decode cX9_poke 62 = .ok (.ireturn, 1) := by decide +kernel
set_option maxRecDepth 20000 in
theorem ggX9_spoil_X9_isIn : GoodIn wsX9_spoil wsX9_isIn := goodIn_r _ [7] (by decide +kernel) (by decide +kernel)
set_option maxRecDepth 20000 in
theorem gX9_spoil_X9_isIn : GoodIn wsX9_spoil (va_wsS RX9 195 yX9_isIn wsX9_isIn) := goodIn_app (goodIn_of _ (by decide +kernel)) ggX9_spoil_X9_isIn
theorem dX9_spoil_0 : decode cX9_spoil 0 = .ok (.iload_n 1, 1) := by decide +kernel
theorem dX9_spoil_1 : decode cX9_spoil 1 = .ok (.aload_n 0, 1) := by decide +kernel
theorem dX9_spoil_2 : decode cX9_spoil 2 = .ok (.getfield 100, 3) := by decide +kernel
theorem dX9_spoil_5 : decode cX9_spoil 5 = .ok (.invokestatic 195, 3) := by decide +kernel
theorem dX9_spoil_8 : decode cX9_spoil 8 = .ok (.ifCond .eq 26, 3) := by decide +kernel
theorem dX9_spoil_11 : decode cX9_spoil 11 = .ok (.iload_n 2, 1) := by decide +kernel
theorem dX9_spoil_12 : decode cX9_spoil 12 = .ok (.bipush 16, 2) := by decide +kernel
theorem dX9_spoil_14 : decode cX9_spoil 14 = .ok (.invokestatic 195, 3) := by decide +kernel
theorem dX9_spoil_17 : decode cX9_spoil 17 = .ok (.ifCond .eq 17, 3) := by decide +kernel
theorem dX9_spoil_20 : decode cX9_spoil 20 = .ok (.iload 4, 2) := by decide +kernel
theorem dX9_spoil_22 : decode cX9_spoil 22 = .ok (.iconst 1, 1) := by decide +kernel
theorem dX9_spoil_23 : decode cX9_spoil 23 = .ok (.if_icmp .lt 11, 3) := by decide +kernel
theorem dX9_spoil_26 : decode cX9_spoil 26 = .ok (.iload 4, 2) := by decide +kernel
theorem dX9_spoil_28 : decode cX9_spoil 28 = .ok (.sipush 255, 3) := by decide +kernel
