theorem dX9_check_108 : decode cX9_check 108 = .ok (.iload 5, 2) := by decide +kernel
theorem dX9_check_110 : decode cX9_check 110 = .ok (.iload 6, 2) := by decide +kernel
theorem dX9_check_112 : decode cX9_check 112 = .ok (.invokestatic 177, 3) := by decide +kernel
theorem dX9_check_115 : decode cX9_check 115 = .ok (.ifCond .ne 19, 3) := by decide +kernel
theorem dX9_check_118 : decode cX9_check 118 = .ok (.aload_n 0, 1) := by decide +kernel
theorem dX9_check_119 : decode cX9_check 119 = .ok (.getfield 88, 3) := by decide +kernel
theorem dX9_check_122 : decode cX9_check 122 = .ok (.iload 6, 2) := by decide +kernel
theorem dX9_check_124 : decode cX9_check 124 = .ok (.iload 5, 2) := by decide +kernel
theorem dX9_check_126 : decode cX9_check 126 = .ok (.invokestatic 177, 3) := by decide +kernel
theorem dX9_check_129 : decode cX9_check 129 = .ok (.ifCond .ne 5, 3) := by decide +kernel
theorem dX9_check_132 : decode cX9_check 132 = .ok (.iconst 3, 1) := by decide +kernel
theorem dX9_check_133 : decode cX9_check 133 = .ok (.ireturn, 1) := by decide +kernel
theorem dX9_check_134 : decode cX9_check 134 = .ok (.iinc 4 1, 3) := by decide +kernel
theorem dX9_check_137 : decode cX9_check 137 = .ok (.goto (-54), 3) := by decide +kernel
theorem dX9_check_140 : decode cX9_check 140 = .ok (.iinc 3 1, 3) := by decide +kernel
theorem dX9_check_143 : decode cX9_check 143 = .ok (.goto (-68), 3) := by decide +kernel
theorem dX9_check_146 : decode cX9_check 146 = .ok (.aload_n 0, 1) := by decide +kernel
theorem dX9_check_147 : decode cX9_check 147 = .ok (.iload_n 2, 1) := by decide +kernel
theorem dX9_check_148 : decode cX9_check 148 = .ok (.invokevirtual 134, 3) := by decide +kernel
theorem dX9_check_151 : decode cX9_check 151 = .ok (.iload_n 2, 1) := by decide +kernel
theorem dX9_check_152 : decode cX9_check 152 = .ok (.aload_n 0, 1) := by decide +kernel
theorem dX9_check_153 : decode cX9_check 153 = .ok (.iload_n 2, 1) := by decide +kernel
theorem dX9_check_154 : decode cX9_check 154 = .ok (.invokevirtual 185, 3) := by decide +kernel
theorem dX9_check_157 : decode cX9_check 157 = .ok (.invokestatic 170, 3) := by decide +kernel
theorem dX9_check_160 : decode cX9_check 160 = .ok (.bipush 20, 2) := by decide +kernel
theorem dX9_check_162 : decode cX9_check 162 = .ok (.iadd, 1) := by decide +kernel
theorem dX9_check_163 : decode cX9_check 163 = .ok (.istore_n 3, 1) := by decide +kernel
theorem dX9_check_164 : decode cX9_check 164 = .ok (.iconst 0, 1) := by decide +kernel
theorem dX9_check_165 : decode cX9_check 165 = .ok (.istore 4, 2) := by decide +kernel
theorem dX9_check_167 : decode cX9_check 167 = .ok (.iload 4, 2) := by decide +kernel
theorem dX9_check_169 : decode cX9_check 169 = .ok (.bipush 32, 2) := by decide +kernel
theorem dX9_check_171 : decode cX9_check 171 = .ok (.if_icmp .ge 30, 3) := by decide +kernel
theorem dX9_check_174 : decode cX9_check 174 = .ok (.aload_n 0, 1) := by decide +kernel
theorem dX9_check_175 : decode cX9_check 175 = .ok (.getfield 88, 3) := by decide +kernel
theorem dX9_check_178 : decode cX9_check 178 = .ok (.iload_n 3, 1) := by decide +kernel
theorem dX9_check_179 : decode cX9_check 179 = .ok (.iload 4, 2) := by decide +kernel
theorem dX9_check_181 : decode cX9_check 181 = .ok (.iadd, 1) := by decide +kernel
theorem dX9_check_182 : decode cX9_check 182 = .ok (.iaload, 1) := by decide +kernel
theorem dX9_check_183 : decode cX9_check 183 = .ok (.aload_n 0, 1) := by decide +kernel
theorem dX9_check_184 : decode cX9_check 184 = .ok (.getfield 128, 3) := by decide +kernel
theorem dX9_check_187 : decode cX9_check 187 = .ok (.iload 4, 2) := by decide +kernel
theorem dX9_check_189 : decode cX9_check 189 = .ok (.iaload, 1) := by decide +kernel
theorem dX9_check_190 : decode cX9_check 190 = .ok (.if_icmp .eq 5, 3) := by decide +kernel
theorem dX9_check_193 : decode cX9_check 193 = .ok (.iconst 4, 1) := by decide +kernel
theorem dX9_check_194 : decode cX9_check 194 = .ok (.ireturn, 1) := by decide +kernel
theorem dX9_check_195 : decode cX9_check 195 = .ok (.iinc 4 1, 3) := by decide +kernel
theorem dX9_check_198 : decode cX9_check 198 = .ok (.goto (-31), 3) := by decide +kernel
theorem dX9_check_201 : decode cX9_check 201 = .ok (.iconst 0, 1) := by decide +kernel
theorem dX9_check_202 : decode cX9_check 202 = .ok (.ireturn, 1) := by decide +kernel
set_option maxRecDepth 20000 in
theorem ggX9_advance_X9_greatest : GoodIn wsX9_advance wsX9_greatest := goodIn_r _ [9, 3, 10, 11, 8, 12, 13, 14, 15, 16, 17, 18, 67, 68, 69, 70, 71, 72, 73, 74, 75, 76, 77, 78, 79, 80, 81, 82, 83, 84, 85, 86, 87, 88, 89] (by decide +kernel) (by decide +kernel)
set_option maxRecDepth 20000 in
theorem gX9_advance_X9_greatest : GoodIn wsX9_advance (wsV RX9 185 RX9 yX9_greatest wsX9_greatest) := goodIn_app (goodIn_of _ (by decide +kernel)) ggX9_advance_X9_greatest
set_option maxRecDepth 20000 in
theorem ggX9_advance_X9_placeOf : GoodIn wsX9_advance wsX9_placeOf := goodIn_r _ [12] (by decide +kernel) (by decide +kernel)
set_option maxRecDepth 20000 in
theorem gX9_advance_X9_placeOf : GoodIn wsX9_advance (va_wsS RX9 170 yX9_placeOf wsX9_placeOf) := goodIn_app (goodIn_of _ (by decide +kernel)) ggX9_advance_X9_placeOf
set_option maxRecDepth 20000 in
theorem ggX9_advance_X9_findRoot : GoodIn wsX9_advance wsX9_findRoot := goodIn_r _ [22, 23, 24, 25, 26, 27, 28, 29, 30, 8, 31, 32, 33, 34, 35, 36, 37, 38, 39, 40, 41, 42, 43, 44, 45, 46, 47, 67, 68, 69, 70, 71, 72, 73, 74, 75, 76, 77, 78, 79, 80, 81, 82, 83, 84, 85, 86, 87, 88, 89] (by decide +kernel) (by decide +kernel)
set_option maxRecDepth 20000 in
theorem gX9_advance_X9_findRoot : GoodIn wsX9_advance (wsV RX9 134 RX9 yX9_findRoot wsX9_findRoot) := goodIn_app (goodIn_of _ (by decide +kernel)) ggX9_advance_X9_findRoot
set_option maxRecDepth 20000 in
theorem ggX9_advance_X9_sign : GoodIn wsX9_advance wsX9_sign := goodIn_r _ [51, 2, 26, 52, 53, 27, 54, 55, 56, 8, 57, 23, 58, 59, 60, 61, 62, 28, 29, 30, 31, 32, 33, 34, 35, 36, 37, 38, 39, 40, 41, 42, 43, 44, 45, 46, 47, 67, 68, 69, 70, 71, 72, 73, 74, 75, 76, 77, 78, 79, 80, 81, 82, 83, 84, 85, 86, 87, 88, 89] (by decide +kernel) (by decide +kernel)
set_option maxRecDepth 20000 in
theorem gX9_advance_X9_sign : GoodIn wsX9_advance (wsV RX9 138 RX9 yX9_sign wsX9_sign) := goodIn_app (goodIn_of _ (by decide +kernel)) ggX9_advance_X9_sign
set_option maxRecDepth 20000 in
theorem ggX9_advance_X9_tell : GoodIn wsX9_advance wsX9_tell := goodIn_r _ [66, 3, 2, 10, 11, 8, 12, 67, 68, 69, 70, 71, 72, 73, 74, 75, 76, 77, 78, 79, 80, 81, 82, 83, 84, 85, 86, 87, 88, 89] (by decide +kernel) (by decide +kernel)
set_option maxRecDepth 20000 in
theorem gX9_advance_X9_tell : GoodIn wsX9_advance (wsV RX9 141 RX9 yX9_tell wsX9_tell) := goodIn_app (goodIn_of _ (by decide +kernel)) ggX9_advance_X9_tell
theorem dX9_advance_0 : decode cX9_advance 0 = .ok (.aload_n 0, 1) := by decide +kernel
theorem dX9_advance_1 : decode cX9_advance 1 = .ok (.getfield 104, 3) := by decide +kernel
theorem dX9_advance_4 : decode cX9_advance 4 = .ok (.iload_n 1, 1) := by decide +kernel
theorem dX9_advance_5 : decode cX9_advance 5 = .ok (.iaload, 1) := by decide +kernel
theorem dX9_advance_6 : decode cX9_advance 6 = .ok (.istore_n 2, 1) := by decide +kernel
theorem dX9_advance_7 : decode cX9_advance 7 = .ok (.iload_n 2, 1) := by decide +kernel
theorem dX9_advance_8 : decode cX9_advance 8 = .ok (.aload_n 0, 1) := by decide +kernel
theorem dX9_advance_9 : decode cX9_advance 9 = .ok (.iload_n 2, 1) := by decide +kernel
theorem dX9_advance_10 : decode cX9_advance 10 = .ok (.invokevirtual 185, 3) := by decide +kernel
theorem dX9_advance_13 : decode cX9_advance 13 = .ok (.invokestatic 170, 3) := by decide +kernel
theorem dX9_advance_16 : decode cX9_advance 16 = .ok (.istore_n 3, 1) := by decide +kernel
theorem dX9_advance_17 : decode cX9_advance 17 = .ok (.iconst 4, 1) := by decide +kernel
theorem dX9_advance_18 : decode cX9_advance 18 = .ok (.istore 4, 2) := by decide +kernel
theorem dX9_advance_20 : decode cX9_advance 20 = .ok (.iload 4, 2) := by decide +kernel
theorem dX9_advance_22 : decode cX9_advance 22 = .ok (.bipush 20, 2) := by decide +kernel
theorem dX9_advance_24 : decode cX9_advance 24 = .ok (.if_icmp .ge 30, 3) := by decide +kernel
theorem dX9_advance_27 : decode cX9_advance 27 = .ok (.aload_n 0, 1) := by decide +kernel
theorem dX9_advance_28 : decode cX9_advance 28 = .ok (.getfield 91, 3) := by decide +kernel
theorem dX9_advance_31 : decode cX9_advance 31 = .ok (.bipush 84, 2) := by decide +kernel
theorem dX9_advance_33 : decode cX9_advance 33 = .ok (.iload_n 1, 1) := by decide +kernel
theorem dX9_advance_34 : decode cX9_advance 34 = .ok (.imul, 1) := by decide +kernel
theorem dX9_advance_35 : decode cX9_advance 35 = .ok (.iload 4, 2) := by decide +kernel
theorem dX9_advance_37 : decode cX9_advance 37 = .ok (.iadd, 1) := by decide +kernel
theorem dX9_advance_38 : decode cX9_advance 38 = .ok (.aload_n 0, 1) := by decide +kernel
theorem dX9_advance_39 : decode cX9_advance 39 = .ok (.getfield 88, 3) := by decide +kernel
theorem dX9_advance_42 : decode cX9_advance 42 = .ok (.iload_n 3, 1) := by decide +kernel
theorem dX9_advance_43 : decode cX9_advance 43 = .ok (.iload 4, 2) := by decide +kernel
theorem dX9_advance_45 : decode cX9_advance 45 = .ok (.iadd, 1) := by decide +kernel
theorem dX9_advance_46 : decode cX9_advance 46 = .ok (.iaload, 1) := by decide +kernel
theorem dX9_advance_47 : decode cX9_advance 47 = .ok (.iastore, 1) := by decide +kernel
theorem dX9_advance_48 : decode cX9_advance 48 = .ok (.iinc 4 1, 3) := by decide +kernel
theorem dX9_advance_51 : decode cX9_advance 51 = .ok (.goto (-31), 3) := by decide +kernel
theorem dX9_advance_54 : decode cX9_advance 54 = .ok (.bipush 84, 2) := by decide +kernel
theorem dX9_advance_56 : decode cX9_advance 56 = .ok (.iload_n 1, 1) := by decide +kernel
theorem dX9_advance_57 : decode cX9_advance 57 = .ok (.imul, 1) := by decide +kernel
theorem dX9_advance_58 : decode cX9_advance 58 = .ok (.iconst 4, 1) := by decide +kernel
theorem dX9_advance_59 : decode cX9_advance 59 = .ok (.iadd, 1) := by decide +kernel
theorem dX9_advance_60 : decode cX9_advance 60 = .ok (.iconst 4, 1) := by decide +kernel
theorem dX9_advance_61 : decode cX9_advance 61 = .ok (.iload_n 1, 1) := by decide +kernel
theorem dX9_advance_62 : decode cX9_advance 62 = .ok (.imul, 1) := by decide +kernel
theorem dX9_advance_63 : decode cX9_advance 63 = .ok (.iadd, 1) := by decide +kernel
theorem dX9_advance_64 : decode cX9_advance 64 = .ok (.istore 4, 2) := by decide +kernel
theorem dX9_advance_66 : decode cX9_advance 66 = .ok (.aload_n 0, 1) := by decide +kernel
theorem dX9_advance_67 : decode cX9_advance 67 = .ok (.getfield 91, 3) := by decide +kernel
theorem dX9_advance_70 : decode cX9_advance 70 = .ok (.iload 4, 2) := by decide +kernel
theorem dX9_advance_72 : decode cX9_advance 72 = .ok (.iaload, 1) := by decide +kernel
theorem dX9_advance_73 : decode cX9_advance 73 = .ok (.bipush 24, 2) := by decide +kernel
theorem dX9_advance_75 : decode cX9_advance 75 = .ok (.ishl, 1) := by decide +kernel
theorem dX9_advance_76 : decode cX9_advance 76 = .ok (.aload_n 0, 1) := by decide +kernel
theorem dX9_advance_77 : decode cX9_advance 77 = .ok (.getfield 91, 3) := by decide +kernel
theorem dX9_advance_80 : decode cX9_advance 80 = .ok (.iload 4, 2) := by decide +kernel
theorem dX9_advance_82 : decode cX9_advance 82 = .ok (.iconst 1, 1) := by decide +kernel
theorem dX9_advance_83 : decode cX9_advance 83 = .ok (.iadd, 1) := by decide +kernel
theorem dX9_advance_84 : decode cX9_advance 84 = .ok (.iaload, 1) := by decide +kernel
theorem dX9_advance_85 : decode cX9_advance 85 = .ok (.bipush 16, 2) := by decide +kernel
theorem dX9_advance_87 : decode cX9_advance 87 = .ok (.ishl, 1) := by decide +kernel
theorem dX9_advance_88 : decode cX9_advance 88 = .ok (.ior, 1) := by decide +kernel
theorem dX9_advance_89 : decode cX9_advance 89 = .ok (.aload_n 0, 1) := by decide +kernel
theorem dX9_advance_90 : decode cX9_advance 90 = .ok (.getfield 91, 3) := by decide +kernel
theorem dX9_advance_93 : decode cX9_advance 93 = .ok (.iload 4, 2) := by decide +kernel
theorem dX9_advance_95 : decode cX9_advance 95 = .ok (.iconst 2, 1) := by decide +kernel
theorem dX9_advance_96 : decode cX9_advance 96 = .ok (.iadd, 1) := by decide +kernel
theorem dX9_advance_97 : decode cX9_advance 97 = .ok (.iaload, 1) := by decide +kernel
theorem dX9_advance_98 : decode cX9_advance 98 = .ok (.bipush 8, 2) := by decide +kernel
theorem dX9_advance_100 : decode cX9_advance 100 = .ok (.ishl, 1) := by decide +kernel
theorem dX9_advance_101 : decode cX9_advance 101 = .ok (.ior, 1) := by decide +kernel
theorem dX9_advance_102 : decode cX9_advance 102 = .ok (.aload_n 0, 1) := by decide +kernel
theorem dX9_advance_103 : decode cX9_advance 103 = .ok (.getfield 91, 3) := by decide +kernel
theorem dX9_advance_106 : decode cX9_advance 106 = .ok (.iload 4, 2) := by decide +kernel
theorem dX9_advance_108 : decode cX9_advance 108 = .ok (.iconst 3, 1) := by decide +kernel
theorem dX9_advance_109 : decode cX9_advance 109 = .ok (.iadd, 1) := by decide +kernel
theorem dX9_advance_110 : decode cX9_advance 110 = .ok (.iaload, 1) := by decide +kernel
theorem dX9_advance_111 : decode cX9_advance 111 = .ok (.ior, 1) := by decide +kernel
theorem dX9_advance_112 : decode cX9_advance 112 = .ok (.istore 5, 2) := by decide +kernel
theorem dX9_advance_114 : decode cX9_advance 114 = .ok (.iload 5, 2) := by decide +kernel
theorem dX9_advance_116 : decode cX9_advance 116 = .ok (.iconst 1, 1) := by decide +kernel
theorem dX9_advance_117 : decode cX9_advance 117 = .ok (.iadd, 1) := by decide +kernel
theorem dX9_advance_118 : decode cX9_advance 118 = .ok (.istore 5, 2) := by decide +kernel
theorem dX9_advance_120 : decode cX9_advance 120 = .ok (.iconst 0, 1) := by decide +kernel
theorem dX9_advance_121 : decode cX9_advance 121 = .ok (.istore 6, 2) := by decide +kernel
theorem dX9_advance_123 : decode cX9_advance 123 = .ok (.iload 6, 2) := by decide +kernel
theorem dX9_advance_125 : decode cX9_advance 125 = .ok (.iconst 4, 1) := by decide +kernel
theorem dX9_advance_126 : decode cX9_advance 126 = .ok (.if_icmp .ge 34, 3) := by decide +kernel
theorem dX9_advance_129 : decode cX9_advance 129 = .ok (.aload_n 0, 1) := by decide +kernel
theorem dX9_advance_130 : decode cX9_advance 130 = .ok (.getfield 91, 3) := by decide +kernel
theorem dX9_advance_133 : decode cX9_advance 133 = .ok (.iload 4, 2) := by decide +kernel
theorem dX9_advance_135 : decode cX9_advance 135 = .ok (.iload 6, 2) := by decide +kernel
theorem dX9_advance_137 : decode cX9_advance 137 = .ok (.iadd, 1) := by decide +kernel
theorem dX9_advance_138 : decode cX9_advance 138 = .ok (.iload 5, 2) := by decide +kernel
theorem dX9_advance_140 : decode cX9_advance 140 = .ok (.bipush 24, 2) := by decide +kernel
theorem dX9_advance_142 : decode cX9_advance 142 = .ok (.bipush 8, 2) := by decide +kernel
theorem dX9_advance_144 : decode cX9_advance 144 = .ok (.iload 6, 2) := by decide +kernel
theorem dX9_advance_146 : decode cX9_advance 146 = .ok (.imul, 1) := by decide +kernel
theorem dX9_advance_147 : decode cX9_advance 147 = .ok (.isub, 1) := by decide +kernel
theorem dX9_advance_148 : decode cX9_advance 148 = .ok (.ishr, 1) := by decide +kernel
theorem dX9_advance_149 : decode cX9_advance 149 = .ok (.sipush 255, 3) := by decide +kernel
theorem dX9_advance_152 : decode cX9_advance 152 = .ok (.iand, 1) := by decide +kernel
theorem dX9_advance_153 : decode cX9_advance 153 = .ok (.iastore, 1) := by decide +kernel
theorem dX9_advance_154 : decode cX9_advance 154 = .ok (.iinc 6 1, 3) := by decide +kernel
theorem dX9_advance_157 : decode cX9_advance 157 = .ok (.goto (-34), 3) := by decide +kernel
theorem dX9_advance_160 : decode cX9_advance 160 = .ok (.aload_n 0, 1) := by decide +kernel
theorem dX9_advance_161 : decode cX9_advance 161 = .ok (.iload_n 2, 1) := by decide +kernel
theorem dX9_advance_162 : decode cX9_advance 162 = .ok (.invokevirtual 134, 3) := by decide +kernel
theorem dX9_advance_165 : decode cX9_advance 165 = .ok (.aload_n 0, 1) := by decide +kernel
theorem dX9_advance_166 : decode cX9_advance 166 = .ok (.iload_n 1, 1) := by decide +kernel
theorem dX9_advance_167 : decode cX9_advance 167 = .ok (.invokevirtual 138, 3) := by decide +kernel
theorem dX9_advance_170 : decode cX9_advance 170 = .ok (.aload_n 0, 1) := by decide +kernel
theorem dX9_advance_171 : decode cX9_advance 171 = .ok (.iload_n 2, 1) := by decide +kernel
theorem dX9_advance_172 : decode cX9_advance 172 = .ok (.iload_n 1, 1) := by decide +kernel
theorem dX9_advance_173 : decode cX9_advance 173 = .ok (.invokevirtual 141, 3) := by decide +kernel
theorem dX9_advance_176 : decode cX9_advance 176 = .ok (.aload_n 0, 1) := by decide +kernel
theorem dX9_advance_177 : decode cX9_advance 177 = .ok (.dup, 1) := by decide +kernel
theorem dX9_advance_178 : decode cX9_advance 178 = .ok (.getfield 189, 3) := by decide +kernel
theorem dX9_advance_181 : decode cX9_advance 181 = .ok (.iconst 1, 1) := by decide +kernel
theorem dX9_advance_182 : decode cX9_advance 182 = .ok (.iadd, 1) := by decide +kernel
theorem dX9_advance_183 : decode cX9_advance 183 = .ok (.putfield 189, 3) := by decide +kernel
theorem dX9_advance_186 : decode cX9_advance 186 = .ok (.return_, 1) := by decide +kernel
theorem dX9_isIn_0 : decode cX9_isIn 0 = .ok (.iload_n 0, 1) := by decide +kernel
theorem dX9_isIn_1 : decode cX9_isIn 1 = .ok (.ifCond .lt 12, 3) := by decide +kernel
theorem dX9_isIn_4 : decode cX9_isIn 4 = .ok (.iload_n 0, 1) := by decide +kernel
theorem dX9_isIn_5 : decode cX9_isIn 5 = .ok (.iload_n 1, 1) := by decide +kernel
theorem dX9_isIn_6 : decode cX9_isIn 6 = .ok (.if_icmp .ge 7, 3) := by decide +kernel
theorem dX9_isIn_9 : decode cX9_isIn 9 = .ok (.iconst 1, 1) := by decide +kernel
theorem dX9_isIn_10 : decode cX9_isIn 10 = .ok (.goto 4, 3) := by decide +kernel
theorem dX9_isIn_13 : decode cX9_isIn 13 = .ok (.iconst 0, 1) := by decide +kernel
theorem dX9_isIn_14 : decode cX9_isIn 14 = .ok (.ireturn, 1) := by decide +kernel
theorem dX9_feed_0 : decode cX9_feed 0 = .ok (.iload_n 1, 1) := by decide +kernel
theorem dX9_feed_1 : decode cX9_feed 1 = .ok (.ifCond .lt 19, 3) := by decide +kernel
theorem dX9_feed_4 : decode cX9_feed 4 = .ok (.iload_n 1, 1) := by decide +kernel
theorem dX9_feed_5 : decode cX9_feed 5 = .ok (.sipush 255, 3) := by decide +kernel
theorem dX9_feed_8 : decode cX9_feed 8 = .ok (.if_icmp .gt 12, 3) := by decide +kernel
theorem dX9_feed_11 : decode cX9_feed 11 = .ok (.aload_n 0, 1) := by decide +kernel
theorem dX9_feed_12 : decode cX9_feed 12 = .ok (.getfield 192, 3) := by decide +kernel
theorem dX9_feed_15 : decode cX9_feed 15 = .ok (.bipush 64, 2) := by decide +kernel
theorem dX9_feed_17 : decode cX9_feed 17 = .ok (.if_icmp .ne 5, 3) := by decide +kernel
theorem dX9_feed_20 : decode cX9_feed 20 = .ok (.iconst 0, 1) := by decide +kernel
theorem dX9_feed_21 : decode cX9_feed 21 = .ok (.ireturn, 1) := by decide +kernel
theorem dX9_feed_22 : decode cX9_feed 22 = .ok (.aload_n 0, 1) := by decide +kernel
theorem dX9_feed_23 : decode cX9_feed 23 = .ok (.getfield 107, 3) := by decide +kernel
theorem dX9_feed_26 : decode cX9_feed 26 = .ok (.aload_n 0, 1) := by decide +kernel
theorem dX9_feed_27 : decode cX9_feed 27 = .ok (.getfield 192, 3) := by decide +kernel
