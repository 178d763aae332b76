set_option maxRecDepth 20000 in
theorem ggX9_init_X9_findRoot : GoodIn wsX9_init wsX9_findRoot := goodIn_r _ [98, 99, 82, 81, 92, 88, 100, 101, 102, 97, 103, 87, 104, 105, 106, 107, 91, 78, 108, 109, 110, 111, 90, 69, 112, 113, 114, 135, 136, 137, 138, 139, 140, 141, 142, 143, 144, 145, 146, 147, 148, 149, 150, 151, 152, 153, 154, 155, 156, 157] (by decide +kernel) (by decide +kernel)
set_option maxRecDepth 20000 in
theorem gX9_init_X9_findRoot : GoodIn wsX9_init (wsV RX9 134 RX9 yX9_findRoot wsX9_findRoot) := goodIn_app (goodIn_of _ (by decide +kernel)) ggX9_init_X9_findRoot
set_option maxRecDepth 20000 in
theorem ggX9_init_X9_sign : GoodIn wsX9_init wsX9_sign := goodIn_r _ [118, 80, 92, 119, 93, 88, 120, 121, 122, 97, 123, 99, 89, 124, 125, 126, 127, 100, 101, 102, 103, 87, 104, 105, 106, 107, 91, 78, 108, 109, 110, 111, 90, 69, 112, 113, 114, 135, 136, 137, 138, 139, 140, 141, 142, 143, 144, 145, 146, 147, 148, 149, 150, 151, 152, 153, 154, 155, 156, 157] (by decide +kernel) (by decide +kernel)
set_option maxRecDepth 20000 in
theorem gX9_init_X9_sign : GoodIn wsX9_init (wsV RX9 138 RX9 yX9_sign wsX9_sign) := goodIn_app (goodIn_of _ (by decide +kernel)) ggX9_init_X9_sign
set_option maxRecDepth 20000 in
theorem ggX9_init_X9_tell : GoodIn wsX9_init wsX9_tell := goodIn_r _ [131, 79, 80, 132, 133, 97, 134, 135, 136, 137, 138, 139, 140, 141, 142, 143, 144, 145, 146, 147, 148, 149, 150, 151, 152, 153, 154, 155, 156, 157] (by decide +kernel) (by decide +kernel)
set_option maxRecDepth 20000 in
theorem gX9_init_X9_tell : GoodIn wsX9_init (wsV RX9 141 RX9 yX9_tell wsX9_tell) := goodIn_app (goodIn_of _ (by decide +kernel)) ggX9_init_X9_tell
theorem dX9_init_0 : decode cX9_init 0 = .ok (.aload_n 0, 1) := by decide +kernel
theorem dX9_init_1 : decode cX9_init 1 = .ok (.invokespecial 1, 3) := by decide +kernel
theorem dX9_init_4 : decode cX9_init 4 = .ok (.aload_n 0, 1) := by decide +kernel
theorem dX9_init_5 : decode cX9_init 5 = .ok (.bipush 64, 2) := by decide +kernel
theorem dX9_init_7 : decode cX9_init 7 = .ok (.newarray .int, 2) := by decide +kernel
theorem dX9_init_9 : decode cX9_init 9 = .ok (.dup, 1) := by decide +kernel
theorem dX9_init_10 : decode cX9_init 10 = .ok (.iconst 0, 1) := by decide +kernel
theorem dX9_init_11 : decode cX9_init 11 = .ok (.ldc 7, 2) := by decide +kernel
theorem dX9_init_13 : decode cX9_init 13 = .ok (.iastore, 1) := by decide +kernel
theorem dX9_init_14 : decode cX9_init 14 = .ok (.dup, 1) := by decide +kernel
theorem dX9_init_15 : decode cX9_init 15 = .ok (.iconst 1, 1) := by decide +kernel
theorem dX9_init_16 : decode cX9_init 16 = .ok (.ldc 8, 2) := by decide +kernel
theorem dX9_init_18 : decode cX9_init 18 = .ok (.iastore, 1) := by decide +kernel
theorem dX9_init_19 : decode cX9_init 19 = .ok (.dup, 1) := by decide +kernel
theorem dX9_init_20 : decode cX9_init 20 = .ok (.iconst 2, 1) := by decide +kernel
theorem dX9_init_21 : decode cX9_init 21 = .ok (.ldc 9, 2) := by decide +kernel
theorem dX9_init_23 : decode cX9_init 23 = .ok (.iastore, 1) := by decide +kernel
theorem dX9_init_24 : decode cX9_init 24 = .ok (.dup, 1) := by decide +kernel
theorem dX9_init_25 : decode cX9_init 25 = .ok (.iconst 3, 1) := by decide +kernel
theorem dX9_init_26 : decode cX9_init 26 = .ok (.ldc 10, 2) := by decide +kernel
theorem dX9_init_28 : decode cX9_init 28 = .ok (.iastore, 1) := by decide +kernel
theorem dX9_init_29 : decode cX9_init 29 = .ok (.dup, 1) := by decide +kernel
theorem dX9_init_30 : decode cX9_init 30 = .ok (.iconst 4, 1) := by decide +kernel
theorem dX9_init_31 : decode cX9_init 31 = .ok (.ldc 11, 2) := by decide +kernel
theorem dX9_init_33 : decode cX9_init 33 = .ok (.iastore, 1) := by decide +kernel
theorem dX9_init_34 : decode cX9_init 34 = .ok (.dup, 1) := by decide +kernel
theorem dX9_init_35 : decode cX9_init 35 = .ok (.iconst 5, 1) := by decide +kernel
theorem dX9_init_36 : decode cX9_init 36 = .ok (.ldc 12, 2) := by decide +kernel
theorem dX9_init_38 : decode cX9_init 38 = .ok (.iastore, 1) := by decide +kernel
theorem dX9_init_39 : decode cX9_init 39 = .ok (.dup, 1) := by decide +kernel
theorem dX9_init_40 : decode cX9_init 40 = .ok (.bipush 6, 2) := by decide +kernel
theorem dX9_init_42 : decode cX9_init 42 = .ok (.ldc 13, 2) := by decide +kernel
theorem dX9_init_44 : decode cX9_init 44 = .ok (.iastore, 1) := by decide +kernel
theorem dX9_init_45 : decode cX9_init 45 = .ok (.dup, 1) := by decide +kernel
theorem dX9_init_46 : decode cX9_init 46 = .ok (.bipush 7, 2) := by decide +kernel
theorem dX9_init_48 : decode cX9_init 48 = .ok (.ldc 14, 2) := by decide +kernel
theorem dX9_init_50 : decode cX9_init 50 = .ok (.iastore, 1) := by decide +kernel
theorem dX9_init_51 : decode cX9_init 51 = .ok (.dup, 1) := by decide +kernel
theorem dX9_init_52 : decode cX9_init 52 = .ok (.bipush 8, 2) := by decide +kernel
theorem dX9_init_54 : decode cX9_init 54 = .ok (.ldc 15, 2) := by decide +kernel
theorem dX9_init_56 : decode cX9_init 56 = .ok (.iastore, 1) := by decide +kernel
theorem dX9_init_57 : decode cX9_init 57 = .ok (.dup, 1) := by decide +kernel
theorem dX9_init_58 : decode cX9_init 58 = .ok (.bipush 9, 2) := by decide +kernel
theorem dX9_init_60 : decode cX9_init 60 = .ok (.ldc 16, 2) := by decide +kernel
theorem dX9_init_62 : decode cX9_init 62 = .ok (.iastore, 1) := by decide +kernel
theorem dX9_init_63 : decode cX9_init 63 = .ok (.dup, 1) := by decide +kernel
theorem dX9_init_64 : decode cX9_init 64 = .ok (.bipush 10, 2) := by decide +kernel
theorem dX9_init_66 : decode cX9_init 66 = .ok (.ldc 17, 2) := by decide +kernel
theorem dX9_init_68 : decode cX9_init 68 = .ok (.iastore, 1) := by decide +kernel
theorem dX9_init_69 : decode cX9_init 69 = .ok (.dup, 1) := by decide +kernel
theorem dX9_init_70 : decode cX9_init 70 = .ok (.bipush 11, 2) := by decide +kernel
theorem dX9_init_72 : decode cX9_init 72 = .ok (.ldc 18, 2) := by decide +kernel
theorem dX9_init_74 : decode cX9_init 74 = .ok (.iastore, 1) := by decide +kernel
theorem dX9_init_75 : decode cX9_init 75 = .ok (.dup, 1) := by decide +kernel
theorem dX9_init_76 : decode cX9_init 76 = .ok (.bipush 12, 2) := by decide +kernel
theorem dX9_init_78 : decode cX9_init 78 = .ok (.ldc 19, 2) := by decide +kernel
theorem dX9_init_80 : decode cX9_init 80 = .ok (.iastore, 1) := by decide +kernel
theorem dX9_init_81 : decode cX9_init 81 = .ok (.dup, 1) := by decide +kernel
theorem dX9_init_82 : decode cX9_init 82 = .ok (.bipush 13, 2) := by decide +kernel
theorem dX9_init_84 : decode cX9_init 84 = .ok (.ldc 20, 2) := by decide +kernel
theorem dX9_init_86 : decode cX9_init 86 = .ok (.iastore, 1) := by decide +kernel
theorem dX9_init_87 : decode cX9_init 87 = .ok (.dup, 1) := by decide +kernel
theorem dX9_init_88 : decode cX9_init 88 = .ok (.bipush 14, 2) := by decide +kernel
theorem dX9_init_90 : decode cX9_init 90 = .ok (.ldc 21, 2) := by decide +kernel
theorem dX9_init_92 : decode cX9_init 92 = .ok (.iastore, 1) := by decide +kernel
theorem dX9_init_93 : decode cX9_init 93 = .ok (.dup, 1) := by decide +kernel
theorem dX9_init_94 : decode cX9_init 94 = .ok (.bipush 15, 2) := by decide +kernel
theorem dX9_init_96 : decode cX9_init 96 = .ok (.ldc 22, 2) := by decide +kernel
theorem dX9_init_98 : decode cX9_init 98 = .ok (.iastore, 1) := by decide +kernel
theorem dX9_init_99 : decode cX9_init 99 = .ok (.dup, 1) := by decide +kernel
theorem dX9_init_100 : decode cX9_init 100 = .ok (.bipush 16, 2) := by decide +kernel
theorem dX9_init_102 : decode cX9_init 102 = .ok (.ldc 23, 2) := by decide +kernel
theorem dX9_init_104 : decode cX9_init 104 = .ok (.iastore, 1) := by decide +kernel
theorem dX9_init_105 : decode cX9_init 105 = .ok (.dup, 1) := by decide +kernel
theorem dX9_init_106 : decode cX9_init 106 = .ok (.bipush 17, 2) := by decide +kernel
theorem dX9_init_108 : decode cX9_init 108 = .ok (.ldc 24, 2) := by decide +kernel
theorem dX9_init_110 : decode cX9_init 110 = .ok (.iastore, 1) := by decide +kernel
theorem dX9_init_111 : decode cX9_init 111 = .ok (.dup, 1) := by decide +kernel
theorem dX9_init_112 : decode cX9_init 112 = .ok (.bipush 18, 2) := by decide +kernel
theorem dX9_init_114 : decode cX9_init 114 = .ok (.ldc 25, 2) := by decide +kernel
theorem dX9_init_116 : decode cX9_init 116 = .ok (.iastore, 1) := by decide +kernel
theorem dX9_init_117 : decode cX9_init 117 = .ok (.dup, 1) := by decide +kernel
theorem dX9_init_118 : decode cX9_init 118 = .ok (.bipush 19, 2) := by decide +kernel
theorem dX9_init_120 : decode cX9_init 120 = .ok (.ldc 26, 2) := by decide +kernel
theorem dX9_init_122 : decode cX9_init 122 = .ok (.iastore, 1) := by decide +kernel
theorem dX9_init_123 : decode cX9_init 123 = .ok (.dup, 1) := by decide +kernel
theorem dX9_init_124 : decode cX9_init 124 = .ok (.bipush 20, 2) := by decide +kernel
theorem dX9_init_126 : decode cX9_init 126 = .ok (.ldc 27, 2) := by decide +kernel
theorem dX9_init_128 : decode cX9_init 128 = .ok (.iastore, 1) := by decide +kernel
theorem dX9_init_129 : decode cX9_init 129 = .ok (.dup, 1) := by decide +kernel
theorem dX9_init_130 : decode cX9_init 130 = .ok (.bipush 21, 2) := by decide +kernel
theorem dX9_init_132 : decode cX9_init 132 = .ok (.ldc 28, 2) := by decide +kernel
theorem dX9_init_134 : decode cX9_init 134 = .ok (.iastore, 1) := by decide +kernel
theorem dX9_init_135 : decode cX9_init 135 = .ok (.dup, 1) := by decide +kernel
theorem dX9_init_136 : decode cX9_init 136 = .ok (.bipush 22, 2) := by decide +kernel
theorem dX9_init_138 : decode cX9_init 138 = .ok (.ldc 29, 2) := by decide +kernel
theorem dX9_init_140 : decode cX9_init 140 = .ok (.iastore, 1) := by decide +kernel
theorem dX9_init_141 : decode cX9_init 141 = .ok (.dup, 1) := by decide +kernel
theorem dX9_init_142 : decode cX9_init 142 = .ok (.bipush 23, 2) := by decide +kernel
theorem dX9_init_144 : decode cX9_init 144 = .ok (.ldc 30, 2) := by decide +kernel
theorem dX9_init_146 : decode cX9_init 146 = .ok (.iastore, 1) := by decide +kernel
theorem dX9_init_147 : decode cX9_init 147 = .ok (.dup, 1) := by decide +kernel
theorem dX9_init_148 : decode cX9_init 148 = .ok (.bipush 24, 2) := by decide +kernel
theorem dX9_init_150 : decode cX9_init 150 = .ok (.ldc 31, 2) := by decide +kernel
theorem dX9_init_152 : decode cX9_init 152 = .ok (.iastore, 1) := by decide +kernel
theorem dX9_init_153 : decode cX9_init 153 = .ok (.dup, 1) := by decide +kernel
theorem dX9_init_154 : decode cX9_init 154 = .ok (.bipush 25, 2) := by decide +kernel
theorem dX9_init_156 : decode cX9_init 156 = .ok (.ldc 32, 2) := by decide +kernel
theorem dX9_init_158 : decode cX9_init 158 = .ok (.iastore, 1) := by decide +kernel
theorem dX9_init_159 : decode cX9_init 159 = .ok (.dup, 1) := by decide +kernel
theorem dX9_init_160 : decode cX9_init 160 = .ok (.bipush 26, 2) := by decide +kernel
theorem dX9_init_162 : decode cX9_init 162 = .ok (.ldc 33, 2) := by decide +kernel
theorem dX9_init_164 : decode cX9_init 164 = .ok (.iastore, 1) := by decide +kernel
theorem dX9_init_165 : decode cX9_init 165 = .ok (.dup, 1) := by decide +kernel
theorem dX9_init_166 : decode cX9_init 166 = .ok (.bipush 27, 2) := by decide +kernel
theorem dX9_init_168 : decode cX9_init 168 = .ok (.ldc 34, 2) := by decide +kernel
theorem dX9_init_170 : decode cX9_init 170 = .ok (.iastore, 1) := by decide +kernel
theorem dX9_init_171 : decode cX9_init 171 = .ok (.dup, 1) := by decide +kernel
theorem dX9_init_172 : decode cX9_init 172 = .ok (.bipush 28, 2) := by decide +kernel
theorem dX9_init_174 : decode cX9_init 174 = .ok (.ldc 35, 2) := by decide +kernel
theorem dX9_init_176 : decode cX9_init 176 = .ok (.iastore, 1) := by decide +kernel
theorem dX9_init_177 : decode cX9_init 177 = .ok (.dup, 1) := by decide +kernel
theorem dX9_init_178 : decode cX9_init 178 = .ok (.bipush 29, 2) := by decide +kernel
theorem dX9_init_180 : decode cX9_init 180 = .ok (.ldc 36, 2) := by decide +kernel
theorem dX9_init_182 : decode cX9_init 182 = .ok (.iastore, 1) := by decide +kernel
theorem dX9_init_183 : decode cX9_init 183 = .ok (.dup, 1) := by decide +kernel
theorem dX9_init_184 : decode cX9_init 184 = .ok (.bipush 30, 2) := by decide +kernel
theorem dX9_init_186 : decode cX9_init 186 = .ok (.ldc 37, 2) := by decide +kernel
theorem dX9_init_188 : decode cX9_init 188 = .ok (.iastore, 1) := by decide +kernel
theorem dX9_init_189 : decode cX9_init 189 = .ok (.dup, 1) := by decide +kernel
theorem dX9_init_190 : decode cX9_init 190 = .ok (.bipush 31, 2) := by decide +kernel
theorem dX9_init_192 : decode cX9_init 192 = .ok (.ldc 38, 2) := by decide +kernel
theorem dX9_init_194 : decode cX9_init 194 = .ok (.iastore, 1) := by decide +kernel
theorem dX9_init_195 : decode cX9_init 195 = .ok (.dup, 1) := by decide +kernel
theorem dX9_init_196 : decode cX9_init 196 = .ok (.bipush 32, 2) := by decide +kernel
theorem dX9_init_198 : decode cX9_init 198 = .ok (.ldc 39, 2) := by decide +kernel
theorem dX9_init_200 : decode cX9_init 200 = .ok (.iastore, 1) := by decide +kernel
theorem dX9_init_201 : decode cX9_init 201 = .ok (.dup, 1) := by decide +kernel
theorem dX9_init_202 : decode cX9_init 202 = .ok (.bipush 33, 2) := by decide +kernel
theorem dX9_init_204 : decode cX9_init 204 = .ok (.ldc 40, 2) := by decide +kernel
theorem dX9_init_206 : decode cX9_init 206 = .ok (.iastore, 1) := by decide +kernel
theorem dX9_init_207 : decode cX9_init 207 = .ok (.dup, 1) := by decide +kernel
theorem dX9_init_208 : decode cX9_init 208 = .ok (.bipush 34, 2) := by decide +kernel
theorem dX9_init_210 : decode cX9_init 210 = .ok (.ldc 41, 2) := by decide +kernel
theorem dX9_init_212 : decode cX9_init 212 = .ok (.iastore, 1) := by decide +kernel
theorem dX9_init_213 : decode cX9_init 213 = .ok (.dup, 1) := by decide +kernel
theorem dX9_init_214 : decode cX9_init 214 = .ok (.bipush 35, 2) := by decide +kernel
theorem dX9_init_216 : decode cX9_init 216 = .ok (.ldc 42, 2) := by decide +kernel
theorem dX9_init_218 : decode cX9_init 218 = .ok (.iastore, 1) := by decide +kernel
theorem dX9_init_219 : decode cX9_init 219 = .ok (.dup, 1) := by decide +kernel
theorem dX9_init_220 : decode cX9_init 220 = .ok (.bipush 36, 2) := by decide +kernel
theorem dX9_init_222 : decode cX9_init 222 = .ok (.ldc 43, 2) := by decide +kernel
theorem dX9_init_224 : decode cX9_init 224 = .ok (.iastore, 1) := by decide +kernel
theorem dX9_init_225 : decode cX9_init 225 = .ok (.dup, 1) := by decide +kernel
theorem dX9_init_226 : decode cX9_init 226 = .ok (.bipush 37, 2) := by decide +kernel
theorem dX9_init_228 : decode cX9_init 228 = .ok (.ldc 44, 2) := by decide +kernel
theorem dX9_init_230 : decode cX9_init 230 = .ok (.iastore, 1) := by decide +kernel
theorem dX9_init_231 : decode cX9_init 231 = .ok (.dup, 1) := by decide +kernel
theorem dX9_init_232 : decode cX9_init 232 = .ok (.bipush 38, 2) := by decide +kernel
theorem dX9_init_234 : decode cX9_init 234 = .ok (.ldc 45, 2) := by decide +kernel
theorem dX9_init_236 : decode cX9_init 236 = .ok (.iastore, 1) := by decide +kernel
theorem dX9_init_237 : decode cX9_init 237 = .ok (.dup, 1) := by decide +kernel
theorem dX9_init_238 : decode cX9_init 238 = .ok (.bipush 39, 2) := by decide +kernel
theorem dX9_init_240 : decode cX9_init 240 = .ok (.ldc 46, 2) := by decide +kernel
theorem dX9_init_242 : decode cX9_init 242 = .ok (.iastore, 1) := by decide +kernel
theorem dX9_init_243 : decode cX9_init 243 = .ok (.dup, 1) := by decide +kernel
theorem dX9_init_244 : decode cX9_init 244 = .ok (.bipush 40, 2) := by decide +kernel
theorem dX9_init_246 : decode cX9_init 246 = .ok (.ldc 47, 2) := by decide +kernel
theorem dX9_init_248 : decode cX9_init 248 = .ok (.iastore, 1) := by decide +kernel
theorem dX9_init_249 : decode cX9_init 249 = .ok (.dup, 1) := by decide +kernel
theorem dX9_init_250 : decode cX9_init 250 = .ok (.bipush 41, 2) := by decide +kernel
theorem dX9_init_252 : decode cX9_init 252 = .ok (.ldc 48, 2) := by decide +kernel
theorem dX9_init_254 : decode cX9_init 254 = .ok (.iastore, 1) := by decide +kernel
theorem dX9_init_255 : decode cX9_init 255 = .ok (.dup, 1) := by decide +kernel
theorem dX9_init_256 : decode cX9_init 256 = .ok (.bipush 42, 2) := by decide +kernel
theorem dX9_init_258 : decode cX9_init 258 = .ok (.ldc 49, 2) := by decide +kernel
theorem dX9_init_260 : decode cX9_init 260 = .ok (.iastore, 1) := by decide +kernel
theorem dX9_init_261 : decode cX9_init 261 = .ok (.dup, 1) := by decide +kernel
theorem dX9_init_262 : decode cX9_init 262 = .ok (.bipush 43, 2) := by decide +kernel
theorem dX9_init_264 : decode cX9_init 264 = .ok (.ldc 50, 2) := by decide +kernel
theorem dX9_init_266 : decode cX9_init 266 = .ok (.iastore, 1) := by decide +kernel
theorem dX9_init_267 : decode cX9_init 267 = .ok (.dup, 1) := by decide +kernel
theorem dX9_init_268 : decode cX9_init 268 = .ok (.bipush 44, 2) := by decide +kernel
theorem dX9_init_270 : decode cX9_init 270 = .ok (.ldc 51, 2) := by decide +kernel
theorem dX9_init_272 : decode cX9_init 272 = .ok (.iastore, 1) := by decide +kernel
theorem dX9_init_273 : decode cX9_init 273 = .ok (.dup, 1) := by decide +kernel
theorem dX9_init_274 : decode cX9_init 274 = .ok (.bipush 45, 2) := by decide +kernel
theorem dX9_init_276 : decode cX9_init 276 = .ok (.ldc 52, 2) := by decide +kernel
theorem dX9_init_278 : decode cX9_init 278 = .ok (.iastore, 1) := by decide +kernel
theorem dX9_init_279 : decode cX9_init 279 = .ok (.dup, 1) := by decide +kernel
theorem dX9_init_280 : decode cX9_init 280 = .ok (.bipush 46, 2) := by decide +kernel
theorem dX9_init_282 : decode cX9_init 282 = .ok (.ldc 53, 2) := by decide +kernel
theorem dX9_init_284 : decode cX9_init 284 = .ok (.iastore, 1) := by decide +kernel
theorem dX9_init_285 : decode cX9_init 285 = .ok (.dup, 1) := by decide +kernel
