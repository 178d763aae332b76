theorem dX9_hash_119 : decode cX9_hash 119 = .ok (.iload_n 2, 1) := by decide +kernel
theorem dX9_hash_120 : decode cX9_hash 120 = .ok (.invokevirtual 155, 3) := by decide +kernel
theorem dX9_hash_123 : decode cX9_hash 123 = .ok (.iinc 2 64, 3) := by decide +kernel
theorem dX9_hash_126 : decode cX9_hash 126 = .ok (.goto (-16), 3) := by decide +kernel
theorem dX9_hash_129 : decode cX9_hash 129 = .ok (.iconst 0, 1) := by decide +kernel
theorem dX9_hash_130 : decode cX9_hash 130 = .ok (.istore_n 2, 1) := by decide +kernel
theorem dX9_hash_131 : decode cX9_hash 131 = .ok (.iload_n 2, 1) := by decide +kernel
theorem dX9_hash_132 : decode cX9_hash 132 = .ok (.bipush 32, 2) := by decide +kernel
theorem dX9_hash_134 : decode cX9_hash 134 = .ok (.if_icmp .ge 37, 3) := by decide +kernel
theorem dX9_hash_137 : decode cX9_hash 137 = .ok (.aload_n 0, 1) := by decide +kernel
theorem dX9_hash_138 : decode cX9_hash 138 = .ok (.getfield 116, 3) := by decide +kernel
theorem dX9_hash_141 : decode cX9_hash 141 = .ok (.iload_n 2, 1) := by decide +kernel
theorem dX9_hash_142 : decode cX9_hash 142 = .ok (.aload_n 0, 1) := by decide +kernel
theorem dX9_hash_143 : decode cX9_hash 143 = .ok (.getfield 125, 3) := by decide +kernel
theorem dX9_hash_146 : decode cX9_hash 146 = .ok (.iload_n 2, 1) := by decide +kernel
theorem dX9_hash_147 : decode cX9_hash 147 = .ok (.iconst 4, 1) := by decide +kernel
theorem dX9_hash_148 : decode cX9_hash 148 = .ok (.idiv, 1) := by decide +kernel
theorem dX9_hash_149 : decode cX9_hash 149 = .ok (.iaload, 1) := by decide +kernel
theorem dX9_hash_150 : decode cX9_hash 150 = .ok (.bipush 24, 2) := by decide +kernel
theorem dX9_hash_152 : decode cX9_hash 152 = .ok (.bipush 8, 2) := by decide +kernel
theorem dX9_hash_154 : decode cX9_hash 154 = .ok (.iload_n 2, 1) := by decide +kernel
theorem dX9_hash_155 : decode cX9_hash 155 = .ok (.iconst 4, 1) := by decide +kernel
theorem dX9_hash_156 : decode cX9_hash 156 = .ok (.irem, 1) := by decide +kernel
theorem dX9_hash_157 : decode cX9_hash 157 = .ok (.imul, 1) := by decide +kernel
theorem dX9_hash_158 : decode cX9_hash 158 = .ok (.isub, 1) := by decide +kernel
theorem dX9_hash_159 : decode cX9_hash 159 = .ok (.iushr, 1) := by decide +kernel
theorem dX9_hash_160 : decode cX9_hash 160 = .ok (.sipush 255, 3) := by decide +kernel
theorem dX9_hash_163 : decode cX9_hash 163 = .ok (.iand, 1) := by decide +kernel
theorem dX9_hash_164 : decode cX9_hash 164 = .ok (.iastore, 1) := by decide +kernel
theorem dX9_hash_165 : decode cX9_hash 165 = .ok (.iinc 2 1, 3) := by decide +kernel
theorem dX9_hash_168 : decode cX9_hash 168 = .ok (.goto (-37), 3) := by decide +kernel
theorem dX9_hash_171 : decode cX9_hash 171 = .ok (.aload_n 0, 1) := by decide +kernel
theorem dX9_hash_172 : decode cX9_hash 172 = .ok (.iconst 0, 1) := by decide +kernel
theorem dX9_hash_173 : decode cX9_hash 173 = .ok (.putfield 145, 3) := by decide +kernel
theorem dX9_hash_176 : decode cX9_hash 176 = .ok (.return_, 1) := by decide +kernel
set_option maxRecDepth 20000 in
theorem ggX9_addKey_X9_add : GoodIn wsX9_addKey wsX9_add := goodIn_r _ [5, 6, 7, 8, 9, 10, 11, 12, 13, 14, 15, 16, 17, 18, 19, 20, 21, 22, 23, 24, 25, 26, 27, 28, 29, 30] (by decide +kernel) (by decide +kernel)
set_option maxRecDepth 20000 in
theorem gX9_addKey_X9_add : GoodIn wsX9_addKey (wsV RX9 152 RX9 yX9_add wsX9_add) := goodIn_app (goodIn_of _ (by decide +kernel)) ggX9_addKey_X9_add
theorem dX9_addKey_0 : decode cX9_addKey 0 = .ok (.iconst 0, 1) := by decide +kernel
theorem dX9_addKey_1 : decode cX9_addKey 1 = .ok (.istore_n 2, 1) := by decide +kernel
theorem dX9_addKey_2 : decode cX9_addKey 2 = .ok (.iload_n 2, 1) := by decide +kernel
theorem dX9_addKey_3 : decode cX9_addKey 3 = .ok (.bipush 64, 2) := by decide +kernel
theorem dX9_addKey_5 : decode cX9_addKey 5 = .ok (.if_icmp .ge 28, 3) := by decide +kernel
theorem dX9_addKey_8 : decode cX9_addKey 8 = .ok (.aload_n 0, 1) := by decide +kernel
theorem dX9_addKey_9 : decode cX9_addKey 9 = .ok (.iload_n 2, 1) := by decide +kernel
theorem dX9_addKey_10 : decode cX9_addKey 10 = .ok (.bipush 32, 2) := by decide +kernel
theorem dX9_addKey_12 : decode cX9_addKey 12 = .ok (.if_icmp .ge 9, 3) := by decide +kernel
theorem dX9_addKey_15 : decode cX9_addKey 15 = .ok (.iload_n 2, 1) := by decide +kernel
theorem dX9_addKey_16 : decode cX9_addKey 16 = .ok (.iconst 1, 1) := by decide +kernel
theorem dX9_addKey_17 : decode cX9_addKey 17 = .ok (.iadd, 1) := by decide +kernel
theorem dX9_addKey_18 : decode cX9_addKey 18 = .ok (.goto 4, 3) := by decide +kernel
theorem dX9_addKey_21 : decode cX9_addKey 21 = .ok (.iconst 0, 1) := by decide +kernel
theorem dX9_addKey_22 : decode cX9_addKey 22 = .ok (.iload_n 1, 1) := by decide +kernel
theorem dX9_addKey_23 : decode cX9_addKey 23 = .ok (.ixor, 1) := by decide +kernel
theorem dX9_addKey_24 : decode cX9_addKey 24 = .ok (.invokevirtual 152, 3) := by decide +kernel
theorem dX9_addKey_27 : decode cX9_addKey 27 = .ok (.iinc 2 1, 3) := by decide +kernel
theorem dX9_addKey_30 : decode cX9_addKey 30 = .ok (.goto (-28), 3) := by decide +kernel
theorem dX9_addKey_33 : decode cX9_addKey 33 = .ok (.return_, 1) := by decide +kernel
set_option maxRecDepth 20000 in
theorem ggX9_mac_X9_addKey : GoodIn wsX9_mac wsX9_addKey := goodIn_r _ [10, 11, 12, 13, 9, 14, 15, 1, 31, 32, 33, 34, 35, 36, 37, 38, 39, 40, 41, 42, 43, 44, 45, 46, 47, 48, 49, 50, 51, 52, 53] (by decide +kernel) (by decide +kernel)
set_option maxRecDepth 20000 in
theorem gX9_mac_X9_addKey : GoodIn wsX9_mac (wsV RX9 158 RX9 yX9_addKey wsX9_addKey) := goodIn_app (goodIn_of _ (by decide +kernel)) ggX9_mac_X9_addKey
set_option maxRecDepth 20000 in
theorem ggX9_mac_X9_add : GoodIn wsX9_mac wsX9_add := goodIn_r _ [14, 15, 1, 31, 32, 33, 34, 35, 36, 37, 38, 39, 40, 41, 42, 43, 44, 45, 46, 47, 48, 49, 50, 51, 52, 53] (by decide +kernel) (by decide +kernel)
set_option maxRecDepth 20000 in
theorem gX9_mac_X9_add : GoodIn wsX9_mac (wsV RX9 152 RX9 yX9_add wsX9_add) := goodIn_app (goodIn_of _ (by decide +kernel)) ggX9_mac_X9_add
set_option maxRecDepth 20000 in
theorem ggX9_mac_X9_hash : GoodIn wsX9_mac wsX9_hash := goodIn_r _ [19, 1, 20, 21, 5, 11, 12, 13, 9, 14, 15, 22, 23, 24, 25, 26, 27, 28, 29, 30, 31, 32, 33, 34, 35, 36, 37, 38, 39, 40, 41, 42, 43, 44, 45, 46, 47, 48, 49, 50, 51, 52, 53] (by decide +kernel) (by decide +kernel)
set_option maxRecDepth 20000 in
theorem gX9_mac_X9_hash : GoodIn wsX9_mac (wsV RX9 164 RX9 yX9_hash wsX9_hash) := goodIn_app (goodIn_of _ (by decide +kernel)) ggX9_mac_X9_hash
theorem dX9_mac_0 : decode cX9_mac 0 = .ok (.aload_n 0, 1) := by decide +kernel
theorem dX9_mac_1 : decode cX9_mac 1 = .ok (.iconst 0, 1) := by decide +kernel
theorem dX9_mac_2 : decode cX9_mac 2 = .ok (.putfield 145, 3) := by decide +kernel
theorem dX9_mac_5 : decode cX9_mac 5 = .ok (.aload_n 0, 1) := by decide +kernel
theorem dX9_mac_6 : decode cX9_mac 6 = .ok (.bipush 54, 2) := by decide +kernel
theorem dX9_mac_8 : decode cX9_mac 8 = .ok (.invokevirtual 158, 3) := by decide +kernel
theorem dX9_mac_11 : decode cX9_mac 11 = .ok (.iconst 0, 1) := by decide +kernel
theorem dX9_mac_12 : decode cX9_mac 12 = .ok (.istore_n 1, 1) := by decide +kernel
theorem dX9_mac_13 : decode cX9_mac 13 = .ok (.iload_n 1, 1) := by decide +kernel
theorem dX9_mac_14 : decode cX9_mac 14 = .ok (.aload_n 0, 1) := by decide +kernel
theorem dX9_mac_15 : decode cX9_mac 15 = .ok (.getfield 161, 3) := by decide +kernel
theorem dX9_mac_18 : decode cX9_mac 18 = .ok (.if_icmp .ge 19, 3) := by decide +kernel
theorem dX9_mac_21 : decode cX9_mac 21 = .ok (.aload_n 0, 1) := by decide +kernel
theorem dX9_mac_22 : decode cX9_mac 22 = .ok (.aload_n 0, 1) := by decide +kernel
theorem dX9_mac_23 : decode cX9_mac 23 = .ok (.getfield 131, 3) := by decide +kernel
theorem dX9_mac_26 : decode cX9_mac 26 = .ok (.iload_n 1, 1) := by decide +kernel
theorem dX9_mac_27 : decode cX9_mac 27 = .ok (.iaload, 1) := by decide +kernel
theorem dX9_mac_28 : decode cX9_mac 28 = .ok (.invokevirtual 152, 3) := by decide +kernel
theorem dX9_mac_31 : decode cX9_mac 31 = .ok (.iinc 1 1, 3) := by decide +kernel
theorem dX9_mac_34 : decode cX9_mac 34 = .ok (.goto (-21), 3) := by decide +kernel
theorem dX9_mac_37 : decode cX9_mac 37 = .ok (.aload_n 0, 1) := by decide +kernel
theorem dX9_mac_38 : decode cX9_mac 38 = .ok (.invokevirtual 164, 3) := by decide +kernel
theorem dX9_mac_41 : decode cX9_mac 41 = .ok (.iconst 0, 1) := by decide +kernel
theorem dX9_mac_42 : decode cX9_mac 42 = .ok (.istore_n 1, 1) := by decide +kernel
theorem dX9_mac_43 : decode cX9_mac 43 = .ok (.iload_n 1, 1) := by decide +kernel
theorem dX9_mac_44 : decode cX9_mac 44 = .ok (.bipush 32, 2) := by decide +kernel
theorem dX9_mac_46 : decode cX9_mac 46 = .ok (.if_icmp .ge 21, 3) := by decide +kernel
theorem dX9_mac_49 : decode cX9_mac 49 = .ok (.aload_n 0, 1) := by decide +kernel
theorem dX9_mac_50 : decode cX9_mac 50 = .ok (.getfield 119, 3) := by decide +kernel
theorem dX9_mac_53 : decode cX9_mac 53 = .ok (.iload_n 1, 1) := by decide +kernel
theorem dX9_mac_54 : decode cX9_mac 54 = .ok (.aload_n 0, 1) := by decide +kernel
theorem dX9_mac_55 : decode cX9_mac 55 = .ok (.getfield 116, 3) := by decide +kernel
theorem dX9_mac_58 : decode cX9_mac 58 = .ok (.iload_n 1, 1) := by decide +kernel
theorem dX9_mac_59 : decode cX9_mac 59 = .ok (.iaload, 1) := by decide +kernel
theorem dX9_mac_60 : decode cX9_mac 60 = .ok (.iastore, 1) := by decide +kernel
theorem dX9_mac_61 : decode cX9_mac 61 = .ok (.iinc 1 1, 3) := by decide +kernel
theorem dX9_mac_64 : decode cX9_mac 64 = .ok (.goto (-21), 3) := by decide +kernel
theorem dX9_mac_67 : decode cX9_mac 67 = .ok (.aload_n 0, 1) := by decide +kernel
theorem dX9_mac_68 : decode cX9_mac 68 = .ok (.bipush 92, 2) := by decide +kernel
theorem dX9_mac_70 : decode cX9_mac 70 = .ok (.invokevirtual 158, 3) := by decide +kernel
theorem dX9_mac_73 : decode cX9_mac 73 = .ok (.iconst 0, 1) := by decide +kernel
theorem dX9_mac_74 : decode cX9_mac 74 = .ok (.istore_n 1, 1) := by decide +kernel
theorem dX9_mac_75 : decode cX9_mac 75 = .ok (.iload_n 1, 1) := by decide +kernel
theorem dX9_mac_76 : decode cX9_mac 76 = .ok (.bipush 32, 2) := by decide +kernel
theorem dX9_mac_78 : decode cX9_mac 78 = .ok (.if_icmp .ge 19, 3) := by decide +kernel
theorem dX9_mac_81 : decode cX9_mac 81 = .ok (.aload_n 0, 1) := by decide +kernel
theorem dX9_mac_82 : decode cX9_mac 82 = .ok (.aload_n 0, 1) := by decide +kernel
theorem dX9_mac_83 : decode cX9_mac 83 = .ok (.getfield 119, 3) := by decide +kernel
theorem dX9_mac_86 : decode cX9_mac 86 = .ok (.iload_n 1, 1) := by decide +kernel
theorem dX9_mac_87 : decode cX9_mac 87 = .ok (.iaload, 1) := by decide +kernel
theorem dX9_mac_88 : decode cX9_mac 88 = .ok (.invokevirtual 152, 3) := by decide +kernel
theorem dX9_mac_91 : decode cX9_mac 91 = .ok (.iinc 1 1, 3) := by decide +kernel
theorem dX9_mac_94 : decode cX9_mac 94 = .ok (.goto (-19), 3) := by decide +kernel
theorem dX9_mac_97 : decode cX9_mac 97 = .ok (.aload_n 0, 1) := by decide +kernel
theorem dX9_mac_98 : decode cX9_mac 98 = .ok (.invokevirtual 164, 3) := by decide +kernel
theorem dX9_mac_101 : decode cX9_mac 101 = .ok (.return_, 1) := by decide +kernel
set_option maxRecDepth 20000 in
theorem ggX9_findRoot_X9_add : GoodIn wsX9_findRoot wsX9_add := goodIn_r _ [10, 11, 1, 27, 28, 29, 30, 31, 32, 33, 34, 35, 36, 37, 38, 39, 40, 41, 42, 43, 44, 45, 46, 47, 48, 49] (by decide +kernel) (by decide +kernel)
set_option maxRecDepth 20000 in
theorem gX9_findRoot_X9_add : GoodIn wsX9_findRoot (wsV RX9 152 RX9 yX9_add wsX9_add) := goodIn_app (goodIn_of _ (by decide +kernel)) ggX9_findRoot_X9_add
set_option maxRecDepth 20000 in
theorem ggX9_findRoot_X9_hash : GoodIn wsX9_findRoot wsX9_hash := goodIn_r _ [15, 1, 16, 17, 5, 6, 7, 8, 9, 10, 11, 18, 19, 20, 21, 22, 23, 24, 25, 26, 27, 28, 29, 30, 31, 32, 33, 34, 35, 36, 37, 38, 39, 40, 41, 42, 43, 44, 45, 46, 47, 48, 49] (by decide +kernel) (by decide +kernel)
set_option maxRecDepth 20000 in
theorem gX9_findRoot_X9_hash : GoodIn wsX9_findRoot (wsV RX9 164 RX9 yX9_hash wsX9_hash) := goodIn_app (goodIn_of _ (by decide +kernel)) ggX9_findRoot_X9_hash
theorem dX9_findRoot_0 : decode cX9_findRoot 0 = .ok (.iconst 0, 1) := by decide +kernel
theorem dX9_findRoot_1 : decode cX9_findRoot 1 = .ok (.istore_n 2, 1) := by decide +kernel
theorem dX9_findRoot_2 : decode cX9_findRoot 2 = .ok (.iload_n 2, 1) := by decide +kernel
theorem dX9_findRoot_3 : decode cX9_findRoot 3 = .ok (.bipush 16, 2) := by decide +kernel
theorem dX9_findRoot_5 : decode cX9_findRoot 5 = .ok (.if_icmp .ge 116, 3) := by decide +kernel
theorem dX9_findRoot_8 : decode cX9_findRoot 8 = .ok (.bipush 16, 2) := by decide +kernel
theorem dX9_findRoot_10 : decode cX9_findRoot 10 = .ok (.iload_n 1, 1) := by decide +kernel
theorem dX9_findRoot_11 : decode cX9_findRoot 11 = .ok (.imul, 1) := by decide +kernel
theorem dX9_findRoot_12 : decode cX9_findRoot 12 = .ok (.iload_n 2, 1) := by decide +kernel
theorem dX9_findRoot_13 : decode cX9_findRoot 13 = .ok (.iadd, 1) := by decide +kernel
theorem dX9_findRoot_14 : decode cX9_findRoot 14 = .ok (.istore_n 3, 1) := by decide +kernel
theorem dX9_findRoot_15 : decode cX9_findRoot 15 = .ok (.aload_n 0, 1) := by decide +kernel
theorem dX9_findRoot_16 : decode cX9_findRoot 16 = .ok (.iconst 0, 1) := by decide +kernel
theorem dX9_findRoot_17 : decode cX9_findRoot 17 = .ok (.putfield 145, 3) := by decide +kernel
theorem dX9_findRoot_20 : decode cX9_findRoot 20 = .ok (.aload_n 0, 1) := by decide +kernel
theorem dX9_findRoot_21 : decode cX9_findRoot 21 = .ok (.iconst 0, 1) := by decide +kernel
theorem dX9_findRoot_22 : decode cX9_findRoot 22 = .ok (.invokevirtual 152, 3) := by decide +kernel
theorem dX9_findRoot_25 : decode cX9_findRoot 25 = .ok (.aload_n 0, 1) := by decide +kernel
theorem dX9_findRoot_26 : decode cX9_findRoot 26 = .ok (.iload_n 2, 1) := by decide +kernel
theorem dX9_findRoot_27 : decode cX9_findRoot 27 = .ok (.invokevirtual 152, 3) := by decide +kernel
theorem dX9_findRoot_30 : decode cX9_findRoot 30 = .ok (.aload_n 0, 1) := by decide +kernel
theorem dX9_findRoot_31 : decode cX9_findRoot 31 = .ok (.aload_n 0, 1) := by decide +kernel
theorem dX9_findRoot_32 : decode cX9_findRoot 32 = .ok (.getfield 97, 3) := by decide +kernel
theorem dX9_findRoot_35 : decode cX9_findRoot 35 = .ok (.iload_n 3, 1) := by decide +kernel
theorem dX9_findRoot_36 : decode cX9_findRoot 36 = .ok (.iaload, 1) := by decide +kernel
theorem dX9_findRoot_37 : decode cX9_findRoot 37 = .ok (.invokevirtual 152, 3) := by decide +kernel
theorem dX9_findRoot_40 : decode cX9_findRoot 40 = .ok (.iconst 0, 1) := by decide +kernel
theorem dX9_findRoot_41 : decode cX9_findRoot 41 = .ok (.istore 4, 2) := by decide +kernel
theorem dX9_findRoot_43 : decode cX9_findRoot 43 = .ok (.iload 4, 2) := by decide +kernel
theorem dX9_findRoot_45 : decode cX9_findRoot 45 = .ok (.aload_n 0, 1) := by decide +kernel
theorem dX9_findRoot_46 : decode cX9_findRoot 46 = .ok (.getfield 97, 3) := by decide +kernel
theorem dX9_findRoot_49 : decode cX9_findRoot 49 = .ok (.iload_n 3, 1) := by decide +kernel
theorem dX9_findRoot_50 : decode cX9_findRoot 50 = .ok (.iaload, 1) := by decide +kernel
theorem dX9_findRoot_51 : decode cX9_findRoot 51 = .ok (.if_icmp .ge 25, 3) := by decide +kernel
theorem dX9_findRoot_54 : decode cX9_findRoot 54 = .ok (.aload_n 0, 1) := by decide +kernel
theorem dX9_findRoot_55 : decode cX9_findRoot 55 = .ok (.aload_n 0, 1) := by decide +kernel
theorem dX9_findRoot_56 : decode cX9_findRoot 56 = .ok (.getfield 94, 3) := by decide +kernel
theorem dX9_findRoot_59 : decode cX9_findRoot 59 = .ok (.bipush 12, 2) := by decide +kernel
theorem dX9_findRoot_61 : decode cX9_findRoot 61 = .ok (.iload_n 3, 1) := by decide +kernel
theorem dX9_findRoot_62 : decode cX9_findRoot 62 = .ok (.imul, 1) := by decide +kernel
theorem dX9_findRoot_63 : decode cX9_findRoot 63 = .ok (.iload 4, 2) := by decide +kernel
theorem dX9_findRoot_65 : decode cX9_findRoot 65 = .ok (.iadd, 1) := by decide +kernel
theorem dX9_findRoot_66 : decode cX9_findRoot 66 = .ok (.iaload, 1) := by decide +kernel
theorem dX9_findRoot_67 : decode cX9_findRoot 67 = .ok (.invokevirtual 152, 3) := by decide +kernel
theorem dX9_findRoot_70 : decode cX9_findRoot 70 = .ok (.iinc 4 1, 3) := by decide +kernel
theorem dX9_findRoot_73 : decode cX9_findRoot 73 = .ok (.goto (-30), 3) := by decide +kernel
theorem dX9_findRoot_76 : decode cX9_findRoot 76 = .ok (.aload_n 0, 1) := by decide +kernel
theorem dX9_findRoot_77 : decode cX9_findRoot 77 = .ok (.invokevirtual 164, 3) := by decide +kernel
theorem dX9_findRoot_80 : decode cX9_findRoot 80 = .ok (.iconst 0, 1) := by decide +kernel
theorem dX9_findRoot_81 : decode cX9_findRoot 81 = .ok (.istore 4, 2) := by decide +kernel
theorem dX9_findRoot_83 : decode cX9_findRoot 83 = .ok (.iload 4, 2) := by decide +kernel
theorem dX9_findRoot_85 : decode cX9_findRoot 85 = .ok (.bipush 32, 2) := by decide +kernel
theorem dX9_findRoot_87 : decode cX9_findRoot 87 = .ok (.if_icmp .ge 28, 3) := by decide +kernel
theorem dX9_findRoot_90 : decode cX9_findRoot 90 = .ok (.aload_n 0, 1) := by decide +kernel
theorem dX9_findRoot_91 : decode cX9_findRoot 91 = .ok (.getfield 128, 3) := by decide +kernel
theorem dX9_findRoot_94 : decode cX9_findRoot 94 = .ok (.bipush 32, 2) := by decide +kernel
theorem dX9_findRoot_96 : decode cX9_findRoot 96 = .ok (.iload_n 2, 1) := by decide +kernel
theorem dX9_findRoot_97 : decode cX9_findRoot 97 = .ok (.imul, 1) := by decide +kernel
theorem dX9_findRoot_98 : decode cX9_findRoot 98 = .ok (.iload 4, 2) := by decide +kernel
theorem dX9_findRoot_100 : decode cX9_findRoot 100 = .ok (.iadd, 1) := by decide +kernel
theorem dX9_findRoot_101 : decode cX9_findRoot 101 = .ok (.aload_n 0, 1) := by decide +kernel
theorem dX9_findRoot_102 : decode cX9_findRoot 102 = .ok (.getfield 116, 3) := by decide +kernel
theorem dX9_findRoot_105 : decode cX9_findRoot 105 = .ok (.iload 4, 2) := by decide +kernel
theorem dX9_findRoot_107 : decode cX9_findRoot 107 = .ok (.iaload, 1) := by decide +kernel
theorem dX9_findRoot_108 : decode cX9_findRoot 108 = .ok (.iastore, 1) := by decide +kernel
theorem dX9_findRoot_109 : decode cX9_findRoot 109 = .ok (.iinc 4 1, 3) := by decide +kernel
theorem dX9_findRoot_112 : decode cX9_findRoot 112 = .ok (.goto (-29), 3) := by decide +kernel
theorem dX9_findRoot_115 : decode cX9_findRoot 115 = .ok (.iinc 2 1, 3) := by decide +kernel
theorem dX9_findRoot_118 : decode cX9_findRoot 118 = .ok (.goto (-116), 3) := by decide +kernel
theorem dX9_findRoot_121 : decode cX9_findRoot 121 = .ok (.bipush 8, 2) := by decide +kernel
theorem dX9_findRoot_123 : decode cX9_findRoot 123 = .ok (.istore_n 2, 1) := by decide +kernel
theorem dX9_findRoot_124 : decode cX9_findRoot 124 = .ok (.iload_n 2, 1) := by decide +kernel
theorem dX9_findRoot_125 : decode cX9_findRoot 125 = .ok (.ifCond .le 99, 3) := by decide +kernel
theorem dX9_findRoot_128 : decode cX9_findRoot 128 = .ok (.iconst 0, 1) := by decide +kernel
theorem dX9_findRoot_129 : decode cX9_findRoot 129 = .ok (.istore_n 3, 1) := by decide +kernel
theorem dX9_findRoot_130 : decode cX9_findRoot 130 = .ok (.iload_n 3, 1) := by decide +kernel
theorem dX9_findRoot_131 : decode cX9_findRoot 131 = .ok (.iload_n 2, 1) := by decide +kernel
