theorem dX9_findRoot_132 : decode cX9_findRoot 132 = .ok (.if_icmp .ge 85, 3) := by decide +kernel
theorem dX9_findRoot_135 : decode cX9_findRoot 135 = .ok (.aload_n 0, 1) := by decide +kernel
theorem dX9_findRoot_136 : decode cX9_findRoot 136 = .ok (.iconst 1, 1) := by decide +kernel
theorem dX9_findRoot_137 : decode cX9_findRoot 137 = .ok (.invokevirtual 152, 3) := by decide +kernel
theorem dX9_findRoot_140 : decode cX9_findRoot 140 = .ok (.iconst 0, 1) := by decide +kernel
theorem dX9_findRoot_141 : decode cX9_findRoot 141 = .ok (.istore 4, 2) := by decide +kernel
theorem dX9_findRoot_143 : decode cX9_findRoot 143 = .ok (.iload 4, 2) := by decide +kernel
theorem dX9_findRoot_145 : decode cX9_findRoot 145 = .ok (.bipush 64, 2) := by decide +kernel
theorem dX9_findRoot_147 : decode cX9_findRoot 147 = .ok (.if_icmp .ge 25, 3) := by decide +kernel
theorem dX9_findRoot_150 : decode cX9_findRoot 150 = .ok (.aload_n 0, 1) := by decide +kernel
theorem dX9_findRoot_151 : decode cX9_findRoot 151 = .ok (.aload_n 0, 1) := by decide +kernel
theorem dX9_findRoot_152 : decode cX9_findRoot 152 = .ok (.getfield 128, 3) := by decide +kernel
theorem dX9_findRoot_155 : decode cX9_findRoot 155 = .ok (.bipush 64, 2) := by decide +kernel
theorem dX9_findRoot_157 : decode cX9_findRoot 157 = .ok (.iload_n 3, 1) := by decide +kernel
theorem dX9_findRoot_158 : decode cX9_findRoot 158 = .ok (.imul, 1) := by decide +kernel
theorem dX9_findRoot_159 : decode cX9_findRoot 159 = .ok (.iload 4, 2) := by decide +kernel
theorem dX9_findRoot_161 : decode cX9_findRoot 161 = .ok (.iadd, 1) := by decide +kernel
theorem dX9_findRoot_162 : decode cX9_findRoot 162 = .ok (.iaload, 1) := by decide +kernel
theorem dX9_findRoot_163 : decode cX9_findRoot 163 = .ok (.invokevirtual 152, 3) := by decide +kernel
theorem dX9_findRoot_166 : decode cX9_findRoot 166 = .ok (.iinc 4 1, 3) := by decide +kernel
theorem dX9_findRoot_169 : decode cX9_findRoot 169 = .ok (.goto (-26), 3) := by decide +kernel
theorem dX9_findRoot_172 : decode cX9_findRoot 172 = .ok (.aload_n 0, 1) := by decide +kernel
theorem dX9_findRoot_173 : decode cX9_findRoot 173 = .ok (.invokevirtual 164, 3) := by decide +kernel
theorem dX9_findRoot_176 : decode cX9_findRoot 176 = .ok (.iconst 0, 1) := by decide +kernel
theorem dX9_findRoot_177 : decode cX9_findRoot 177 = .ok (.istore 4, 2) := by decide +kernel
theorem dX9_findRoot_179 : decode cX9_findRoot 179 = .ok (.iload 4, 2) := by decide +kernel
theorem dX9_findRoot_181 : decode cX9_findRoot 181 = .ok (.bipush 32, 2) := by decide +kernel
theorem dX9_findRoot_183 : decode cX9_findRoot 183 = .ok (.if_icmp .ge 28, 3) := by decide +kernel
theorem dX9_findRoot_186 : decode cX9_findRoot 186 = .ok (.aload_n 0, 1) := by decide +kernel
theorem dX9_findRoot_187 : decode cX9_findRoot 187 = .ok (.getfield 128, 3) := by decide +kernel
theorem dX9_findRoot_190 : decode cX9_findRoot 190 = .ok (.bipush 32, 2) := by decide +kernel
theorem dX9_findRoot_192 : decode cX9_findRoot 192 = .ok (.iload_n 3, 1) := by decide +kernel
theorem dX9_findRoot_193 : decode cX9_findRoot 193 = .ok (.imul, 1) := by decide +kernel
theorem dX9_findRoot_194 : decode cX9_findRoot 194 = .ok (.iload 4, 2) := by decide +kernel
theorem dX9_findRoot_196 : decode cX9_findRoot 196 = .ok (.iadd, 1) := by decide +kernel
theorem dX9_findRoot_197 : decode cX9_findRoot 197 = .ok (.aload_n 0, 1) := by decide +kernel
theorem dX9_findRoot_198 : decode cX9_findRoot 198 = .ok (.getfield 116, 3) := by decide +kernel
theorem dX9_findRoot_201 : decode cX9_findRoot 201 = .ok (.iload 4, 2) := by decide +kernel
theorem dX9_findRoot_203 : decode cX9_findRoot 203 = .ok (.iaload, 1) := by decide +kernel
theorem dX9_findRoot_204 : decode cX9_findRoot 204 = .ok (.iastore, 1) := by decide +kernel
theorem dX9_findRoot_205 : decode cX9_findRoot 205 = .ok (.iinc 4 1, 3) := by decide +kernel
theorem dX9_findRoot_208 : decode cX9_findRoot 208 = .ok (.goto (-29), 3) := by decide +kernel
theorem dX9_findRoot_211 : decode cX9_findRoot 211 = .ok (.iinc 3 1, 3) := by decide +kernel
theorem dX9_findRoot_214 : decode cX9_findRoot 214 = .ok (.goto (-84), 3) := by decide +kernel
theorem dX9_findRoot_217 : decode cX9_findRoot 217 = .ok (.iload_n 2, 1) := by decide +kernel
theorem dX9_findRoot_218 : decode cX9_findRoot 218 = .ok (.iconst 2, 1) := by decide +kernel
theorem dX9_findRoot_219 : decode cX9_findRoot 219 = .ok (.idiv, 1) := by decide +kernel
theorem dX9_findRoot_220 : decode cX9_findRoot 220 = .ok (.istore_n 2, 1) := by decide +kernel
theorem dX9_findRoot_221 : decode cX9_findRoot 221 = .ok (.goto (-97), 3) := by decide +kernel
theorem dX9_findRoot_224 : decode cX9_findRoot 224 = .ok (.return_, 1) := by decide +kernel
set_option maxRecDepth 20000 in
theorem ggX9_sign_X9_mac : GoodIn wsX9_sign wsX9_mac := goodIn_r _ [10, 11, 3, 4, 12, 5, 13, 14, 15, 9, 16, 17, 18, 19, 20, 21, 22, 23, 24, 25, 26, 27, 28, 29, 30, 31, 32, 33, 34, 35, 36, 37, 38, 39, 40, 41, 42, 43, 44, 45, 46, 47, 48, 49, 50, 51, 52, 53, 54, 55, 56, 57, 58, 59] (by decide +kernel) (by decide +kernel)
set_option maxRecDepth 20000 in
theorem gX9_sign_X9_mac : GoodIn wsX9_sign (wsV RX9 167 RX9 yX9_mac wsX9_mac) := goodIn_app (goodIn_of _ (by decide +kernel)) ggX9_sign_X9_mac
theorem dX9_sign_0 : decode cX9_sign 0 = .ok (.bipush 84, 2) := by decide +kernel
theorem dX9_sign_2 : decode cX9_sign 2 = .ok (.iload_n 1, 1) := by decide +kernel
theorem dX9_sign_3 : decode cX9_sign 3 = .ok (.imul, 1) := by decide +kernel
theorem dX9_sign_4 : decode cX9_sign 4 = .ok (.istore_n 2, 1) := by decide +kernel
theorem dX9_sign_5 : decode cX9_sign 5 = .ok (.iconst 0, 1) := by decide +kernel
theorem dX9_sign_6 : decode cX9_sign 6 = .ok (.istore_n 3, 1) := by decide +kernel
theorem dX9_sign_7 : decode cX9_sign 7 = .ok (.iload_n 3, 1) := by decide +kernel
theorem dX9_sign_8 : decode cX9_sign 8 = .ok (.bipush 32, 2) := by decide +kernel
theorem dX9_sign_10 : decode cX9_sign 10 = .ok (.if_icmp .ge 26, 3) := by decide +kernel
theorem dX9_sign_13 : decode cX9_sign 13 = .ok (.aload_n 0, 1) := by decide +kernel
theorem dX9_sign_14 : decode cX9_sign 14 = .ok (.getfield 91, 3) := by decide +kernel
theorem dX9_sign_17 : decode cX9_sign 17 = .ok (.iload_n 2, 1) := by decide +kernel
theorem dX9_sign_18 : decode cX9_sign 18 = .ok (.bipush 20, 2) := by decide +kernel
theorem dX9_sign_20 : decode cX9_sign 20 = .ok (.iadd, 1) := by decide +kernel
theorem dX9_sign_21 : decode cX9_sign 21 = .ok (.iload_n 3, 1) := by decide +kernel
theorem dX9_sign_22 : decode cX9_sign 22 = .ok (.iadd, 1) := by decide +kernel
theorem dX9_sign_23 : decode cX9_sign 23 = .ok (.aload_n 0, 1) := by decide +kernel
theorem dX9_sign_24 : decode cX9_sign 24 = .ok (.getfield 128, 3) := by decide +kernel
theorem dX9_sign_27 : decode cX9_sign 27 = .ok (.iload_n 3, 1) := by decide +kernel
theorem dX9_sign_28 : decode cX9_sign 28 = .ok (.iaload, 1) := by decide +kernel
theorem dX9_sign_29 : decode cX9_sign 29 = .ok (.iastore, 1) := by decide +kernel
theorem dX9_sign_30 : decode cX9_sign 30 = .ok (.iinc 3 1, 3) := by decide +kernel
theorem dX9_sign_33 : decode cX9_sign 33 = .ok (.goto (-26), 3) := by decide +kernel
theorem dX9_sign_36 : decode cX9_sign 36 = .ok (.aload_n 0, 1) := by decide +kernel
theorem dX9_sign_37 : decode cX9_sign 37 = .ok (.bipush 52, 2) := by decide +kernel
theorem dX9_sign_39 : decode cX9_sign 39 = .ok (.putfield 161, 3) := by decide +kernel
theorem dX9_sign_42 : decode cX9_sign 42 = .ok (.iconst 0, 1) := by decide +kernel
theorem dX9_sign_43 : decode cX9_sign 43 = .ok (.istore_n 3, 1) := by decide +kernel
theorem dX9_sign_44 : decode cX9_sign 44 = .ok (.iload_n 3, 1) := by decide +kernel
theorem dX9_sign_45 : decode cX9_sign 45 = .ok (.bipush 52, 2) := by decide +kernel
theorem dX9_sign_47 : decode cX9_sign 47 = .ok (.if_icmp .ge 23, 3) := by decide +kernel
theorem dX9_sign_50 : decode cX9_sign 50 = .ok (.aload_n 0, 1) := by decide +kernel
theorem dX9_sign_51 : decode cX9_sign 51 = .ok (.getfield 131, 3) := by decide +kernel
theorem dX9_sign_54 : decode cX9_sign 54 = .ok (.iload_n 3, 1) := by decide +kernel
theorem dX9_sign_55 : decode cX9_sign 55 = .ok (.aload_n 0, 1) := by decide +kernel
theorem dX9_sign_56 : decode cX9_sign 56 = .ok (.getfield 91, 3) := by decide +kernel
theorem dX9_sign_59 : decode cX9_sign 59 = .ok (.iload_n 2, 1) := by decide +kernel
theorem dX9_sign_60 : decode cX9_sign 60 = .ok (.iload_n 3, 1) := by decide +kernel
theorem dX9_sign_61 : decode cX9_sign 61 = .ok (.iadd, 1) := by decide +kernel
theorem dX9_sign_62 : decode cX9_sign 62 = .ok (.iaload, 1) := by decide +kernel
theorem dX9_sign_63 : decode cX9_sign 63 = .ok (.iastore, 1) := by decide +kernel
theorem dX9_sign_64 : decode cX9_sign 64 = .ok (.iinc 3 1, 3) := by decide +kernel
theorem dX9_sign_67 : decode cX9_sign 67 = .ok (.goto (-23), 3) := by decide +kernel
theorem dX9_sign_70 : decode cX9_sign 70 = .ok (.aload_n 0, 1) := by decide +kernel
theorem dX9_sign_71 : decode cX9_sign 71 = .ok (.invokevirtual 167, 3) := by decide +kernel
theorem dX9_sign_74 : decode cX9_sign 74 = .ok (.iconst 0, 1) := by decide +kernel
theorem dX9_sign_75 : decode cX9_sign 75 = .ok (.istore_n 3, 1) := by decide +kernel
theorem dX9_sign_76 : decode cX9_sign 76 = .ok (.iload_n 3, 1) := by decide +kernel
theorem dX9_sign_77 : decode cX9_sign 77 = .ok (.bipush 32, 2) := by decide +kernel
theorem dX9_sign_79 : decode cX9_sign 79 = .ok (.if_icmp .ge 26, 3) := by decide +kernel
theorem dX9_sign_82 : decode cX9_sign 82 = .ok (.aload_n 0, 1) := by decide +kernel
theorem dX9_sign_83 : decode cX9_sign 83 = .ok (.getfield 91, 3) := by decide +kernel
theorem dX9_sign_86 : decode cX9_sign 86 = .ok (.iload_n 2, 1) := by decide +kernel
theorem dX9_sign_87 : decode cX9_sign 87 = .ok (.bipush 52, 2) := by decide +kernel
theorem dX9_sign_89 : decode cX9_sign 89 = .ok (.iadd, 1) := by decide +kernel
theorem dX9_sign_90 : decode cX9_sign 90 = .ok (.iload_n 3, 1) := by decide +kernel
theorem dX9_sign_91 : decode cX9_sign 91 = .ok (.iadd, 1) := by decide +kernel
theorem dX9_sign_92 : decode cX9_sign 92 = .ok (.aload_n 0, 1) := by decide +kernel
theorem dX9_sign_93 : decode cX9_sign 93 = .ok (.getfield 116, 3) := by decide +kernel
theorem dX9_sign_96 : decode cX9_sign 96 = .ok (.iload_n 3, 1) := by decide +kernel
theorem dX9_sign_97 : decode cX9_sign 97 = .ok (.iaload, 1) := by decide +kernel
theorem dX9_sign_98 : decode cX9_sign 98 = .ok (.iastore, 1) := by decide +kernel
theorem dX9_sign_99 : decode cX9_sign 99 = .ok (.iinc 3 1, 3) := by decide +kernel
theorem dX9_sign_102 : decode cX9_sign 102 = .ok (.goto (-26), 3) := by decide +kernel
theorem dX9_sign_105 : decode cX9_sign 105 = .ok (.return_, 1) := by decide +kernel
theorem dX9_placeOf_0 : decode cX9_placeOf 0 = .ok (.bipush 84, 2) := by decide +kernel
theorem dX9_placeOf_2 : decode cX9_placeOf 2 = .ok (.iconst 4, 1) := by decide +kernel
theorem dX9_placeOf_3 : decode cX9_placeOf 3 = .ok (.iload_n 0, 1) := by decide +kernel
theorem dX9_placeOf_4 : decode cX9_placeOf 4 = .ok (.imul, 1) := by decide +kernel
theorem dX9_placeOf_5 : decode cX9_placeOf 5 = .ok (.iload_n 1, 1) := by decide +kernel
theorem dX9_placeOf_6 : decode cX9_placeOf 6 = .ok (.iadd, 1) := by decide +kernel
theorem dX9_placeOf_7 : decode cX9_placeOf 7 = .ok (.imul, 1) := by decide +kernel
theorem dX9_placeOf_8 : decode cX9_placeOf 8 = .ok (.ireturn, 1) := by decide +kernel
set_option maxRecDepth 20000 in
theorem ggX9_tell_X9_placeOf : GoodIn wsX9_tell wsX9_placeOf := goodIn_r _ [6] (by decide +kernel) (by decide +kernel)
set_option maxRecDepth 20000 in
theorem gX9_tell_X9_placeOf : GoodIn wsX9_tell (va_wsS RX9 170 yX9_placeOf wsX9_placeOf) := goodIn_app (goodIn_of _ (by decide +kernel)) ggX9_tell_X9_placeOf
theorem dX9_tell_0 : decode cX9_tell 0 = .ok (.iconst 0, 1) := by decide +kernel
theorem dX9_tell_1 : decode cX9_tell 1 = .ok (.istore_n 3, 1) := by decide +kernel
theorem dX9_tell_2 : decode cX9_tell 2 = .ok (.iload_n 3, 1) := by decide +kernel
theorem dX9_tell_3 : decode cX9_tell 3 = .ok (.bipush 84, 2) := by decide +kernel
theorem dX9_tell_5 : decode cX9_tell 5 = .ok (.if_icmp .ge 32, 3) := by decide +kernel
theorem dX9_tell_8 : decode cX9_tell 8 = .ok (.aload_n 0, 1) := by decide +kernel
theorem dX9_tell_9 : decode cX9_tell 9 = .ok (.getfield 88, 3) := by decide +kernel
theorem dX9_tell_12 : decode cX9_tell 12 = .ok (.iload_n 1, 1) := by decide +kernel
theorem dX9_tell_13 : decode cX9_tell 13 = .ok (.iload_n 2, 1) := by decide +kernel
theorem dX9_tell_14 : decode cX9_tell 14 = .ok (.invokestatic 170, 3) := by decide +kernel
theorem dX9_tell_17 : decode cX9_tell 17 = .ok (.iload_n 3, 1) := by decide +kernel
theorem dX9_tell_18 : decode cX9_tell 18 = .ok (.iadd, 1) := by decide +kernel
theorem dX9_tell_19 : decode cX9_tell 19 = .ok (.aload_n 0, 1) := by decide +kernel
theorem dX9_tell_20 : decode cX9_tell 20 = .ok (.getfield 91, 3) := by decide +kernel
theorem dX9_tell_23 : decode cX9_tell 23 = .ok (.bipush 84, 2) := by decide +kernel
theorem dX9_tell_25 : decode cX9_tell 25 = .ok (.iload_n 2, 1) := by decide +kernel
theorem dX9_tell_26 : decode cX9_tell 26 = .ok (.imul, 1) := by decide +kernel
theorem dX9_tell_27 : decode cX9_tell 27 = .ok (.iload_n 3, 1) := by decide +kernel
theorem dX9_tell_28 : decode cX9_tell 28 = .ok (.iadd, 1) := by decide +kernel
theorem dX9_tell_29 : decode cX9_tell 29 = .ok (.iaload, 1) := by decide +kernel
theorem dX9_tell_30 : decode cX9_tell 30 = .ok (.iastore, 1) := by decide +kernel
theorem dX9_tell_31 : decode cX9_tell 31 = .ok (.iinc 3 1, 3) := by decide +kernel
theorem dX9_tell_34 : decode cX9_tell 34 = .ok (.goto (-32), 3) := by decide +kernel
theorem dX9_tell_37 : decode cX9_tell 37 = .ok (.return_, 1) := by decide +kernel
theorem dX9_countAt_0 : decode cX9_countAt 0 = .ok (.lconst 0, 1) := by decide +kernel
theorem dX9_countAt_1 : decode cX9_countAt 1 = .ok (.lstore_n 3, 1) := by decide +kernel
theorem dX9_countAt_2 : decode cX9_countAt 2 = .ok (.iconst 0, 1) := by decide +kernel
theorem dX9_countAt_3 : decode cX9_countAt 3 = .ok (.istore 5, 2) := by decide +kernel
theorem dX9_countAt_5 : decode cX9_countAt 5 = .ok (.iload 5, 2) := by decide +kernel
theorem dX9_countAt_7 : decode cX9_countAt 7 = .ok (.iconst 4, 1) := by decide +kernel
theorem dX9_countAt_8 : decode cX9_countAt 8 = .ok (.if_icmp .ge 28, 3) := by decide +kernel
theorem dX9_countAt_11 : decode cX9_countAt 11 = .ok (.lload_n 3, 1) := by decide +kernel
theorem dX9_countAt_12 : decode cX9_countAt 12 = .ok (.bipush 8, 2) := by decide +kernel
theorem dX9_countAt_14 : decode cX9_countAt 14 = .ok (.lshl, 1) := by decide +kernel
theorem dX9_countAt_15 : decode cX9_countAt 15 = .ok (.aload_n 0, 1) := by decide +kernel
theorem dX9_countAt_16 : decode cX9_countAt 16 = .ok (.iload_n 1, 1) := by decide +kernel
theorem dX9_countAt_17 : decode cX9_countAt 17 = .ok (.iconst 4, 1) := by decide +kernel
theorem dX9_countAt_18 : decode cX9_countAt 18 = .ok (.iadd, 1) := by decide +kernel
theorem dX9_countAt_19 : decode cX9_countAt 19 = .ok (.iconst 4, 1) := by decide +kernel
theorem dX9_countAt_20 : decode cX9_countAt 20 = .ok (.iload_n 2, 1) := by decide +kernel
theorem dX9_countAt_21 : decode cX9_countAt 21 = .ok (.imul, 1) := by decide +kernel
theorem dX9_countAt_22 : decode cX9_countAt 22 = .ok (.iadd, 1) := by decide +kernel
theorem dX9_countAt_23 : decode cX9_countAt 23 = .ok (.iload 5, 2) := by decide +kernel
theorem dX9_countAt_25 : decode cX9_countAt 25 = .ok (.iadd, 1) := by decide +kernel
theorem dX9_countAt_26 : decode cX9_countAt 26 = .ok (.iaload, 1) := by decide +kernel
theorem dX9_countAt_27 : decode cX9_countAt 27 = .ok (.i2l, 1) := by decide +kernel
theorem dX9_countAt_28 : decode cX9_countAt 28 = .ok (.lor, 1) := by decide +kernel
theorem dX9_countAt_29 : decode cX9_countAt 29 = .ok (.lstore_n 3, 1) := by decide +kernel
theorem dX9_countAt_30 : decode cX9_countAt 30 = .ok (.iinc 5 1, 3) := by decide +kernel
theorem dX9_countAt_33 : decode cX9_countAt 33 = .ok (.goto (-28), 3) := by decide +kernel
theorem dX9_countAt_36 : decode cX9_countAt 36 = .ok (.lload_n 3, 1) := by decide +kernel
theorem dX9_countAt_37 : decode cX9_countAt 37 = .ok (.lreturn, 1) := by decide +kernel
set_option maxRecDepth 20000 in
theorem ggX9_isNotAbove_X9_countAt : GoodIn wsX9_isNotAbove wsX9_countAt := goodIn_r _ [4] (by decide +kernel) (by decide +kernel)
set_option maxRecDepth 20000 in
theorem gX9_isNotAbove_X9_countAt : GoodIn wsX9_isNotAbove (va_wsS RX9 173 yX9_countAt wsX9_countAt) := goodIn_app (goodIn_of _ (by decide +kernel)) ggX9_isNotAbove_X9_countAt
theorem dX9_isNotAbove_0 : decode cX9_isNotAbove 0 = .ok (.iconst 1, 1) := by decide +kernel
theorem dX9_isNotAbove_1 : decode cX9_isNotAbove 1 = .ok (.istore_n 3, 1) := by decide +kernel
theorem dX9_isNotAbove_2 : decode cX9_isNotAbove 2 = .ok (.iconst 0, 1) := by decide +kernel
theorem dX9_isNotAbove_3 : decode cX9_isNotAbove 3 = .ok (.istore 4, 2) := by decide +kernel
theorem dX9_isNotAbove_5 : decode cX9_isNotAbove 5 = .ok (.iload 4, 2) := by decide +kernel
theorem dX9_isNotAbove_7 : decode cX9_isNotAbove 7 = .ok (.iconst 4, 1) := by decide +kernel
theorem dX9_isNotAbove_8 : decode cX9_isNotAbove 8 = .ok (.if_icmp .ge 37, 3) := by decide +kernel
theorem dX9_isNotAbove_11 : decode cX9_isNotAbove 11 = .ok (.iload_n 3, 1) := by decide +kernel
theorem dX9_isNotAbove_12 : decode cX9_isNotAbove 12 = .ok (.ifCond .eq 25, 3) := by decide +kernel
theorem dX9_isNotAbove_15 : decode cX9_isNotAbove 15 = .ok (.aload_n 0, 1) := by decide +kernel
theorem dX9_isNotAbove_16 : decode cX9_isNotAbove 16 = .ok (.iload_n 1, 1) := by decide +kernel
theorem dX9_isNotAbove_17 : decode cX9_isNotAbove 17 = .ok (.iload 4, 2) := by decide +kernel
theorem dX9_isNotAbove_19 : decode cX9_isNotAbove 19 = .ok (.invokestatic 173, 3) := by decide +kernel
theorem dX9_isNotAbove_22 : decode cX9_isNotAbove 22 = .ok (.aload_n 0, 1) := by decide +kernel
theorem dX9_isNotAbove_23 : decode cX9_isNotAbove 23 = .ok (.iload_n 2, 1) := by decide +kernel
theorem dX9_isNotAbove_24 : decode cX9_isNotAbove 24 = .ok (.iload 4, 2) := by decide +kernel
theorem dX9_isNotAbove_26 : decode cX9_isNotAbove 26 = .ok (.invokestatic 173, 3) := by decide +kernel
theorem dX9_isNotAbove_29 : decode cX9_isNotAbove 29 = .ok (.lcmp, 1) := by decide +kernel
theorem dX9_isNotAbove_30 : decode cX9_isNotAbove 30 = .ok (.ifCond .gt 7, 3) := by decide +kernel
