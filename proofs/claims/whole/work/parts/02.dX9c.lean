theorem dX9_init_624 : decode cX9_init 624 = .ok (.return_, 1) := by decide +kernel
theorem dX9_add_0 : decode cX9_add 0 = .ok (.aload_n 0, 1) := by decide +kernel
theorem dX9_add_1 : decode cX9_add 1 = .ok (.getfield 113, 3) := by decide +kernel
theorem dX9_add_4 : decode cX9_add 4 = .ok (.aload_n 0, 1) := by decide +kernel
theorem dX9_add_5 : decode cX9_add 5 = .ok (.getfield 145, 3) := by decide +kernel
theorem dX9_add_8 : decode cX9_add 8 = .ok (.iload_n 1, 1) := by decide +kernel
theorem dX9_add_9 : decode cX9_add 9 = .ok (.sipush 255, 3) := by decide +kernel
theorem dX9_add_12 : decode cX9_add 12 = .ok (.iand, 1) := by decide +kernel
theorem dX9_add_13 : decode cX9_add 13 = .ok (.iastore, 1) := by decide +kernel
theorem dX9_add_14 : decode cX9_add 14 = .ok (.aload_n 0, 1) := by decide +kernel
theorem dX9_add_15 : decode cX9_add 15 = .ok (.dup, 1) := by decide +kernel
theorem dX9_add_16 : decode cX9_add 16 = .ok (.getfield 145, 3) := by decide +kernel
theorem dX9_add_19 : decode cX9_add 19 = .ok (.iconst 1, 1) := by decide +kernel
theorem dX9_add_20 : decode cX9_add 20 = .ok (.iadd, 1) := by decide +kernel
theorem dX9_add_21 : decode cX9_add 21 = .ok (.putfield 145, 3) := by decide +kernel
theorem dX9_add_24 : decode cX9_add 24 = .ok (.return_, 1) := by decide +kernel
theorem dX9_right_0 : decode cX9_right 0 = .ok (.iload_n 0, 1) := by decide +kernel
theorem dX9_right_1 : decode cX9_right 1 = .ok (.iload_n 1, 1) := by decide +kernel
theorem dX9_right_2 : decode cX9_right 2 = .ok (.iushr, 1) := by decide +kernel
theorem dX9_right_3 : decode cX9_right 3 = .ok (.iload_n 0, 1) := by decide +kernel
theorem dX9_right_4 : decode cX9_right 4 = .ok (.bipush 32, 2) := by decide +kernel
theorem dX9_right_6 : decode cX9_right 6 = .ok (.iload_n 1, 1) := by decide +kernel
theorem dX9_right_7 : decode cX9_right 7 = .ok (.isub, 1) := by decide +kernel
theorem dX9_right_8 : decode cX9_right 8 = .ok (.ishl, 1) := by decide +kernel
theorem dX9_right_9 : decode cX9_right 9 = .ok (.ior, 1) := by decide +kernel
theorem dX9_right_10 : decode cX9_right 10 = .ok (.ireturn, 1) := by decide +kernel
set_option maxRecDepth 20000 in
theorem ggX9_mix_X9_right : GoodIn wsX9_mix wsX9_right := goodIn_r _ [8] (by decide +kernel) (by decide +kernel)
set_option maxRecDepth 20000 in
theorem gX9_mix_X9_right : GoodIn wsX9_mix (va_wsS RX9 148 yX9_right wsX9_right) := goodIn_app (goodIn_of _ (by decide +kernel)) ggX9_mix_X9_right
theorem dX9_mix_0 : decode cX9_mix 0 = .ok (.iconst 0, 1) := by decide +kernel
theorem dX9_mix_1 : decode cX9_mix 1 = .ok (.istore_n 2, 1) := by decide +kernel
theorem dX9_mix_2 : decode cX9_mix 2 = .ok (.iload_n 2, 1) := by decide +kernel
theorem dX9_mix_3 : decode cX9_mix 3 = .ok (.bipush 16, 2) := by decide +kernel
theorem dX9_mix_5 : decode cX9_mix 5 = .ok (.if_icmp .ge 63, 3) := by decide +kernel
theorem dX9_mix_8 : decode cX9_mix 8 = .ok (.iload_n 1, 1) := by decide +kernel
theorem dX9_mix_9 : decode cX9_mix 9 = .ok (.iconst 4, 1) := by decide +kernel
theorem dX9_mix_10 : decode cX9_mix 10 = .ok (.iload_n 2, 1) := by decide +kernel
theorem dX9_mix_11 : decode cX9_mix 11 = .ok (.imul, 1) := by decide +kernel
theorem dX9_mix_12 : decode cX9_mix 12 = .ok (.iadd, 1) := by decide +kernel
theorem dX9_mix_13 : decode cX9_mix 13 = .ok (.istore_n 3, 1) := by decide +kernel
theorem dX9_mix_14 : decode cX9_mix 14 = .ok (.aload_n 0, 1) := by decide +kernel
theorem dX9_mix_15 : decode cX9_mix 15 = .ok (.getfield 122, 3) := by decide +kernel
theorem dX9_mix_18 : decode cX9_mix 18 = .ok (.iload_n 2, 1) := by decide +kernel
theorem dX9_mix_19 : decode cX9_mix 19 = .ok (.aload_n 0, 1) := by decide +kernel
theorem dX9_mix_20 : decode cX9_mix 20 = .ok (.getfield 113, 3) := by decide +kernel
theorem dX9_mix_23 : decode cX9_mix 23 = .ok (.iload_n 3, 1) := by decide +kernel
theorem dX9_mix_24 : decode cX9_mix 24 = .ok (.iaload, 1) := by decide +kernel
theorem dX9_mix_25 : decode cX9_mix 25 = .ok (.bipush 24, 2) := by decide +kernel
theorem dX9_mix_27 : decode cX9_mix 27 = .ok (.ishl, 1) := by decide +kernel
theorem dX9_mix_28 : decode cX9_mix 28 = .ok (.aload_n 0, 1) := by decide +kernel
theorem dX9_mix_29 : decode cX9_mix 29 = .ok (.getfield 113, 3) := by decide +kernel
theorem dX9_mix_32 : decode cX9_mix 32 = .ok (.iload_n 3, 1) := by decide +kernel
theorem dX9_mix_33 : decode cX9_mix 33 = .ok (.iconst 1, 1) := by decide +kernel
theorem dX9_mix_34 : decode cX9_mix 34 = .ok (.iadd, 1) := by decide +kernel
theorem dX9_mix_35 : decode cX9_mix 35 = .ok (.iaload, 1) := by decide +kernel
theorem dX9_mix_36 : decode cX9_mix 36 = .ok (.bipush 16, 2) := by decide +kernel
theorem dX9_mix_38 : decode cX9_mix 38 = .ok (.ishl, 1) := by decide +kernel
theorem dX9_mix_39 : decode cX9_mix 39 = .ok (.ior, 1) := by decide +kernel
theorem dX9_mix_40 : decode cX9_mix 40 = .ok (.aload_n 0, 1) := by decide +kernel
theorem dX9_mix_41 : decode cX9_mix 41 = .ok (.getfield 113, 3) := by decide +kernel
theorem dX9_mix_44 : decode cX9_mix 44 = .ok (.iload_n 3, 1) := by decide +kernel
theorem dX9_mix_45 : decode cX9_mix 45 = .ok (.iconst 2, 1) := by decide +kernel
theorem dX9_mix_46 : decode cX9_mix 46 = .ok (.iadd, 1) := by decide +kernel
theorem dX9_mix_47 : decode cX9_mix 47 = .ok (.iaload, 1) := by decide +kernel
theorem dX9_mix_48 : decode cX9_mix 48 = .ok (.bipush 8, 2) := by decide +kernel
theorem dX9_mix_50 : decode cX9_mix 50 = .ok (.ishl, 1) := by decide +kernel
theorem dX9_mix_51 : decode cX9_mix 51 = .ok (.ior, 1) := by decide +kernel
theorem dX9_mix_52 : decode cX9_mix 52 = .ok (.aload_n 0, 1) := by decide +kernel
theorem dX9_mix_53 : decode cX9_mix 53 = .ok (.getfield 113, 3) := by decide +kernel
theorem dX9_mix_56 : decode cX9_mix 56 = .ok (.iload_n 3, 1) := by decide +kernel
theorem dX9_mix_57 : decode cX9_mix 57 = .ok (.iconst 3, 1) := by decide +kernel
theorem dX9_mix_58 : decode cX9_mix 58 = .ok (.iadd, 1) := by decide +kernel
theorem dX9_mix_59 : decode cX9_mix 59 = .ok (.iaload, 1) := by decide +kernel
theorem dX9_mix_60 : decode cX9_mix 60 = .ok (.ior, 1) := by decide +kernel
theorem dX9_mix_61 : decode cX9_mix 61 = .ok (.iastore, 1) := by decide +kernel
theorem dX9_mix_62 : decode cX9_mix 62 = .ok (.iinc 2 1, 3) := by decide +kernel
theorem dX9_mix_65 : decode cX9_mix 65 = .ok (.goto (-63), 3) := by decide +kernel
theorem dX9_mix_68 : decode cX9_mix 68 = .ok (.bipush 16, 2) := by decide +kernel
theorem dX9_mix_70 : decode cX9_mix 70 = .ok (.istore_n 2, 1) := by decide +kernel
theorem dX9_mix_71 : decode cX9_mix 71 = .ok (.iload_n 2, 1) := by decide +kernel
theorem dX9_mix_72 : decode cX9_mix 72 = .ok (.bipush 64, 2) := by decide +kernel
theorem dX9_mix_74 : decode cX9_mix 74 = .ok (.if_icmp .ge 94, 3) := by decide +kernel
theorem dX9_mix_77 : decode cX9_mix 77 = .ok (.aload_n 0, 1) := by decide +kernel
theorem dX9_mix_78 : decode cX9_mix 78 = .ok (.getfield 122, 3) := by decide +kernel
theorem dX9_mix_81 : decode cX9_mix 81 = .ok (.iload_n 2, 1) := by decide +kernel
theorem dX9_mix_82 : decode cX9_mix 82 = .ok (.bipush 15, 2) := by decide +kernel
theorem dX9_mix_84 : decode cX9_mix 84 = .ok (.isub, 1) := by decide +kernel
theorem dX9_mix_85 : decode cX9_mix 85 = .ok (.iaload, 1) := by decide +kernel
theorem dX9_mix_86 : decode cX9_mix 86 = .ok (.istore_n 3, 1) := by decide +kernel
theorem dX9_mix_87 : decode cX9_mix 87 = .ok (.aload_n 0, 1) := by decide +kernel
theorem dX9_mix_88 : decode cX9_mix 88 = .ok (.getfield 122, 3) := by decide +kernel
theorem dX9_mix_91 : decode cX9_mix 91 = .ok (.iload_n 2, 1) := by decide +kernel
theorem dX9_mix_92 : decode cX9_mix 92 = .ok (.iconst 2, 1) := by decide +kernel
theorem dX9_mix_93 : decode cX9_mix 93 = .ok (.isub, 1) := by decide +kernel
theorem dX9_mix_94 : decode cX9_mix 94 = .ok (.iaload, 1) := by decide +kernel
theorem dX9_mix_95 : decode cX9_mix 95 = .ok (.istore 4, 2) := by decide +kernel
theorem dX9_mix_97 : decode cX9_mix 97 = .ok (.aload_n 0, 1) := by decide +kernel
theorem dX9_mix_98 : decode cX9_mix 98 = .ok (.getfield 122, 3) := by decide +kernel
theorem dX9_mix_101 : decode cX9_mix 101 = .ok (.iload_n 2, 1) := by decide +kernel
theorem dX9_mix_102 : decode cX9_mix 102 = .ok (.aload_n 0, 1) := by decide +kernel
theorem dX9_mix_103 : decode cX9_mix 103 = .ok (.getfield 122, 3) := by decide +kernel
theorem dX9_mix_106 : decode cX9_mix 106 = .ok (.iload_n 2, 1) := by decide +kernel
theorem dX9_mix_107 : decode cX9_mix 107 = .ok (.bipush 16, 2) := by decide +kernel
theorem dX9_mix_109 : decode cX9_mix 109 = .ok (.isub, 1) := by decide +kernel
theorem dX9_mix_110 : decode cX9_mix 110 = .ok (.iaload, 1) := by decide +kernel
theorem dX9_mix_111 : decode cX9_mix 111 = .ok (.aload_n 0, 1) := by decide +kernel
theorem dX9_mix_112 : decode cX9_mix 112 = .ok (.getfield 122, 3) := by decide +kernel
theorem dX9_mix_115 : decode cX9_mix 115 = .ok (.iload_n 2, 1) := by decide +kernel
theorem dX9_mix_116 : decode cX9_mix 116 = .ok (.bipush 7, 2) := by decide +kernel
theorem dX9_mix_118 : decode cX9_mix 118 = .ok (.isub, 1) := by decide +kernel
theorem dX9_mix_119 : decode cX9_mix 119 = .ok (.iaload, 1) := by decide +kernel
theorem dX9_mix_120 : decode cX9_mix 120 = .ok (.iadd, 1) := by decide +kernel
theorem dX9_mix_121 : decode cX9_mix 121 = .ok (.iload_n 3, 1) := by decide +kernel
theorem dX9_mix_122 : decode cX9_mix 122 = .ok (.bipush 7, 2) := by decide +kernel
theorem dX9_mix_124 : decode cX9_mix 124 = .ok (.invokestatic 148, 3) := by decide +kernel
theorem dX9_mix_127 : decode cX9_mix 127 = .ok (.iload_n 3, 1) := by decide +kernel
theorem dX9_mix_128 : decode cX9_mix 128 = .ok (.bipush 18, 2) := by decide +kernel
theorem dX9_mix_130 : decode cX9_mix 130 = .ok (.invokestatic 148, 3) := by decide +kernel
theorem dX9_mix_133 : decode cX9_mix 133 = .ok (.ixor, 1) := by decide +kernel
theorem dX9_mix_134 : decode cX9_mix 134 = .ok (.iload_n 3, 1) := by decide +kernel
theorem dX9_mix_135 : decode cX9_mix 135 = .ok (.iconst 3, 1) := by decide +kernel
theorem dX9_mix_136 : decode cX9_mix 136 = .ok (.iushr, 1) := by decide +kernel
theorem dX9_mix_137 : decode cX9_mix 137 = .ok (.ixor, 1) := by decide +kernel
theorem dX9_mix_138 : decode cX9_mix 138 = .ok (.iadd, 1) := by decide +kernel
theorem dX9_mix_139 : decode cX9_mix 139 = .ok (.iload 4, 2) := by decide +kernel
theorem dX9_mix_141 : decode cX9_mix 141 = .ok (.bipush 17, 2) := by decide +kernel
theorem dX9_mix_143 : decode cX9_mix 143 = .ok (.invokestatic 148, 3) := by decide +kernel
theorem dX9_mix_146 : decode cX9_mix 146 = .ok (.iload 4, 2) := by decide +kernel
theorem dX9_mix_148 : decode cX9_mix 148 = .ok (.bipush 19, 2) := by decide +kernel
theorem dX9_mix_150 : decode cX9_mix 150 = .ok (.invokestatic 148, 3) := by decide +kernel
theorem dX9_mix_153 : decode cX9_mix 153 = .ok (.ixor, 1) := by decide +kernel
theorem dX9_mix_154 : decode cX9_mix 154 = .ok (.iload 4, 2) := by decide +kernel
theorem dX9_mix_156 : decode cX9_mix 156 = .ok (.bipush 10, 2) := by decide +kernel
theorem dX9_mix_158 : decode cX9_mix 158 = .ok (.iushr, 1) := by decide +kernel
theorem dX9_mix_159 : decode cX9_mix 159 = .ok (.ixor, 1) := by decide +kernel
theorem dX9_mix_160 : decode cX9_mix 160 = .ok (.iadd, 1) := by decide +kernel
theorem dX9_mix_161 : decode cX9_mix 161 = .ok (.iastore, 1) := by decide +kernel
theorem dX9_mix_162 : decode cX9_mix 162 = .ok (.iinc 2 1, 3) := by decide +kernel
theorem dX9_mix_165 : decode cX9_mix 165 = .ok (.goto (-94), 3) := by decide +kernel
theorem dX9_mix_168 : decode cX9_mix 168 = .ok (.aload_n 0, 1) := by decide +kernel
theorem dX9_mix_169 : decode cX9_mix 169 = .ok (.getfield 125, 3) := by decide +kernel
theorem dX9_mix_172 : decode cX9_mix 172 = .ok (.iconst 0, 1) := by decide +kernel
theorem dX9_mix_173 : decode cX9_mix 173 = .ok (.iaload, 1) := by decide +kernel
theorem dX9_mix_174 : decode cX9_mix 174 = .ok (.istore_n 2, 1) := by decide +kernel
theorem dX9_mix_175 : decode cX9_mix 175 = .ok (.aload_n 0, 1) := by decide +kernel
theorem dX9_mix_176 : decode cX9_mix 176 = .ok (.getfield 125, 3) := by decide +kernel
theorem dX9_mix_179 : decode cX9_mix 179 = .ok (.iconst 1, 1) := by decide +kernel
theorem dX9_mix_180 : decode cX9_mix 180 = .ok (.iaload, 1) := by decide +kernel
theorem dX9_mix_181 : decode cX9_mix 181 = .ok (.istore_n 3, 1) := by decide +kernel
theorem dX9_mix_182 : decode cX9_mix 182 = .ok (.aload_n 0, 1) := by decide +kernel
theorem dX9_mix_183 : decode cX9_mix 183 = .ok (.getfield 125, 3) := by decide +kernel
theorem dX9_mix_186 : decode cX9_mix 186 = .ok (.iconst 2, 1) := by decide +kernel
theorem dX9_mix_187 : decode cX9_mix 187 = .ok (.iaload, 1) := by decide +kernel
theorem dX9_mix_188 : decode cX9_mix 188 = .ok (.istore 4, 2) := by decide +kernel
theorem dX9_mix_190 : decode cX9_mix 190 = .ok (.aload_n 0, 1) := by decide +kernel
theorem dX9_mix_191 : decode cX9_mix 191 = .ok (.getfield 125, 3) := by decide +kernel
theorem dX9_mix_194 : decode cX9_mix 194 = .ok (.iconst 3, 1) := by decide +kernel
theorem dX9_mix_195 : decode cX9_mix 195 = .ok (.iaload, 1) := by decide +kernel
theorem dX9_mix_196 : decode cX9_mix 196 = .ok (.istore 5, 2) := by decide +kernel
theorem dX9_mix_198 : decode cX9_mix 198 = .ok (.aload_n 0, 1) := by decide +kernel
theorem dX9_mix_199 : decode cX9_mix 199 = .ok (.getfield 125, 3) := by decide +kernel
theorem dX9_mix_202 : decode cX9_mix 202 = .ok (.iconst 4, 1) := by decide +kernel
theorem dX9_mix_203 : decode cX9_mix 203 = .ok (.iaload, 1) := by decide +kernel
theorem dX9_mix_204 : decode cX9_mix 204 = .ok (.istore 6, 2) := by decide +kernel
theorem dX9_mix_206 : decode cX9_mix 206 = .ok (.aload_n 0, 1) := by decide +kernel
theorem dX9_mix_207 : decode cX9_mix 207 = .ok (.getfield 125, 3) := by decide +kernel
theorem dX9_mix_210 : decode cX9_mix 210 = .ok (.iconst 5, 1) := by decide +kernel
theorem dX9_mix_211 : decode cX9_mix 211 = .ok (.iaload, 1) := by decide +kernel
theorem dX9_mix_212 : decode cX9_mix 212 = .ok (.istore 7, 2) := by decide +kernel
theorem dX9_mix_214 : decode cX9_mix 214 = .ok (.aload_n 0, 1) := by decide +kernel
theorem dX9_mix_215 : decode cX9_mix 215 = .ok (.getfield 125, 3) := by decide +kernel
theorem dX9_mix_218 : decode cX9_mix 218 = .ok (.bipush 6, 2) := by decide +kernel
theorem dX9_mix_220 : decode cX9_mix 220 = .ok (.iaload, 1) := by decide +kernel
theorem dX9_mix_221 : decode cX9_mix 221 = .ok (.istore 8, 2) := by decide +kernel
theorem dX9_mix_223 : decode cX9_mix 223 = .ok (.aload_n 0, 1) := by decide +kernel
theorem dX9_mix_224 : decode cX9_mix 224 = .ok (.getfield 125, 3) := by decide +kernel
theorem dX9_mix_227 : decode cX9_mix 227 = .ok (.bipush 7, 2) := by decide +kernel
theorem dX9_mix_229 : decode cX9_mix 229 = .ok (.iaload, 1) := by decide +kernel
theorem dX9_mix_230 : decode cX9_mix 230 = .ok (.istore 9, 2) := by decide +kernel
theorem dX9_mix_232 : decode cX9_mix 232 = .ok (.iconst 0, 1) := by decide +kernel
theorem dX9_mix_233 : decode cX9_mix 233 = .ok (.istore 10, 2) := by decide +kernel
theorem dX9_mix_235 : decode cX9_mix 235 = .ok (.iload 10, 2) := by decide +kernel
theorem dX9_mix_237 : decode cX9_mix 237 = .ok (.bipush 64, 2) := by decide +kernel
theorem dX9_mix_239 : decode cX9_mix 239 = .ok (.if_icmp .ge 136, 3) := by decide +kernel
theorem dX9_mix_242 : decode cX9_mix 242 = .ok (.iload 9, 2) := by decide +kernel
theorem dX9_mix_244 : decode cX9_mix 244 = .ok (.iload 6, 2) := by decide +kernel
theorem dX9_mix_246 : decode cX9_mix 246 = .ok (.bipush 6, 2) := by decide +kernel
theorem dX9_mix_248 : decode cX9_mix 248 = .ok (.invokestatic 148, 3) := by decide +kernel
theorem dX9_mix_251 : decode cX9_mix 251 = .ok (.iload 6, 2) := by decide +kernel
theorem dX9_mix_253 : decode cX9_mix 253 = .ok (.bipush 11, 2) := by decide +kernel
theorem dX9_mix_255 : decode cX9_mix 255 = .ok (.invokestatic 148, 3) := by decide +kernel
theorem dX9_mix_258 : decode cX9_mix 258 = .ok (.ixor, 1) := by decide +kernel
theorem dX9_mix_259 : decode cX9_mix 259 = .ok (.iload 6, 2) := by decide +kernel
theorem dX9_mix_261 : decode cX9_mix 261 = .ok (.bipush 25, 2) := by decide +kernel
theorem dX9_mix_263 : decode cX9_mix 263 = .ok (.invokestatic 148, 3) := by decide +kernel
theorem dX9_mix_266 : decode cX9_mix 266 = .ok (.ixor, 1) := by decide +kernel
theorem dX9_mix_267 : decode cX9_mix 267 = .ok (.iadd, 1) := by decide +kernel
theorem dX9_mix_268 : decode cX9_mix 268 = .ok (.iload 6, 2) := by decide +kernel
theorem dX9_mix_270 : decode cX9_mix 270 = .ok (.iload 7, 2) := by decide +kernel
theorem dX9_mix_272 : decode cX9_mix 272 = .ok (.iand, 1) := by decide +kernel
theorem dX9_mix_273 : decode cX9_mix 273 = .ok (.iload 6, 2) := by decide +kernel
