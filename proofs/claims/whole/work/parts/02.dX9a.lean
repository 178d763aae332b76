set_option maxRecDepth 20000 in
theorem ggX9_init_X9_findRoot : GoodIn wsX9_init wsX9_findRoot := goodIn_r _ [98, 99, 82, 81, 92, 88, 100, 101, 102, 97, 103, 87, 104, 105, 106, 107, 91, 78, 108, 109, 110, 111, 90, 69, 112, 113, 114, 135, 136, 137, 138, 139, 140, 141, 142, 143, 144, 145, 146, 147, 148, 149, 150, 151, 152, 153, 154, 155, 156, 157] (by decide +kernel) (by decide +kernel)
set_option maxRecDepth 20000 in
theorem gX9_init_X9_findRoot : GoodIn wsX9_init (wsV RX9 134 RX9 yX9_findRoot wsX9_findRoot) := goodIn_app (goodIn_of _ (by decide +kernel)) ggX9_init_X9_findRoot
set_option maxRecDepth 20000 in
theorem ggX9_init_X9_sign : GoodIn wsX9_init wsX9_sign := goodIn_r _ [118, 80, 92, 119, 93, 88, 120, 121, 122, 97, 123, 99, 89, 124, 125, 126, 127, 100, 101, 102, 103, 87, 104, 105, 106, 107, 91, 78, 108, 109, 110, 111, 90, 69, 112, 113, 114, 135, 136, 137, 138, 139, 140, 141, 142, 143, 144, 145, 146, 147, 148, 149, 150, 151, 152, 153, 154, 155, 156, 157] (by decide +kernel) (by decide +kernel)
set_option maxRecDepth 20000 in
theorem gX9_init_X9_sign : GoodIn wsX9_init (wsV RX9 138 RX9 yX9_sign wsX9_sign) := goodIn_app (goodIn_of _ (by decide +kernel)) ggX9_init_X9_sign
set_option maxRecDepth 20000 in
theorem ggX9_init_X9_tell : GoodIn wsX9_init wsX9_tell := goodIn_r _ [131, 79, 80, 132, 133, 97, 134, 135, 136, 137, 138, 139, 140, 141, 142, 143, 144, 145, 146, 147, 148, 149, 150, 151, 152, 153, 154, 155, 156, 157] (by decide +kernel) (by decide +kernel)
set_option maxRecDepth 20000 in
theorem gX9_init_X9_tell : GoodIn wsX9_init (wsV RX9 141 RX9 yX9_tell wsX9_tell) := goodIn_app (goodIn_of _ (by decide +kernel)) ggX9_init_X9_tell
theorem dX9_init_0 : decode cX9_init 0 = .ok (.aload_n 0, 1) := by decide +kernel
theorem dX9_init_1 : decode cX9_init 1 = .ok (.invokespecial 1, 3) := by decide +kernel
theorem dX9_init_4 : decode cX9_init 4 = .ok (.aload_n 0, 1) := by decide +kernel
theorem dX9_init_5 : decode cX9_init 5 = .ok (.bipush 64, 2) := by decide +kernel
theorem dX9_init_7 : decode cX9_init 7 = .ok (.newarray .int, 2) := by decide +kernel
theorem dX9_init_9 : decode cX9_init 9 = .ok (.dup, 1) := by decide +kernel
theorem dX9_init_10 : decode cX9_init 10 = .ok (.iconst 0, 1) := by decide +kernel
theorem dX9_init_11 : decode cX9_init 11 = .ok (.ldc 7, 2) := by decide +kernel
theorem dX9_init_13 : decode cX9_init 13 = .ok (.iastore, 1) := by decide +kernel
theorem dX9_init_14 : decode cX9_init 14 = .ok (.dup, 1) := by decide +kernel
theorem dX9_init_15 : decode cX9_init 15 = .ok (.iconst 1, 1) := by decide +kernel
theorem dX9_init_16 : decode cX9_init 16 = .ok (.ldc 8, 2) := by decide +kernel
theorem dX9_init_18 : decode cX9_init 18 = .ok (.iastore, 1) := by decide +kernel
theorem dX9_init_19 : decode cX9_init 19 = .ok (.dup, 1) := by decide +kernel
theorem dX9_init_20 : decode cX9_init 20 = .ok (.iconst 2, 1) := by decide +kernel
theorem dX9_init_21 : decode cX9_init 21 = .ok (.ldc 9, 2) := by decide +kernel
theorem dX9_init_23 : decode cX9_init 23 = .ok (.iastore, 1) := by decide +kernel
theorem dX9_init_24 : decode cX9_init 24 = .ok (.dup, 1) := by decide +kernel
theorem dX9_init_25 : decode cX9_init 25 = .ok (.iconst 3, 1) := by decide +kernel
theorem dX9_init_26 : decode cX9_init 26 = .ok (.ldc 10, 2) := by decide +kernel
theorem dX9_init_28 : decode cX9_init 28 = .ok (.iastore, 1) := by decide +kernel
theorem dX9_init_29 : decode cX9_init 29 = .ok (.dup, 1) := by decide +kernel
theorem dX9_init_30 : decode cX9_init 30 = .ok (.iconst 4, 1) := by decide +kernel
theorem dX9_init_31 : decode cX9_init 31 = .ok (.ldc 11, 2) := by decide +kernel
theorem dX9_init_33 : decode cX9_init 33 = .ok (.iastore, 1) := by decide +kernel
theorem dX9_init_34 : decode cX9_init 34 = .ok (.dup, 1) := by decide +kernel
theorem dX9_init_35 : decode cX9_init 35 = .ok (.iconst 5, 1) := by decide +kernel
theorem dX9_init_36 : decode cX9_init 36 = .ok (.ldc 12, 2) := by decide +kernel
theorem dX9_init_38 : decode cX9_init 38 = .ok (.iastore, 1) := by decide +kernel
theorem dX9_init_39 : decode cX9_init 39 = .ok (.dup, 1) := by decide +kernel
theorem dX9_init_40 : decode cX9_init 40 = .ok (.bipush 6, 2) := by decide +kernel
theorem dX9_init_42 : decode cX9_init 42 = .ok (.ldc 13, 2) := by decide +kernel
theorem dX9_init_44 : decode cX9_init 44 = .ok (.iastore, 1) := by decide +kernel
theorem dX9_init_45 : decode cX9_init 45 = .ok (.dup, 1) := by decide +kernel
theorem dX9_init_46 : decode cX9_init 46 = .ok (.bipush 7, 2) := by decide +kernel
theorem dX9_init_48 : decode cX9_init 48 = .ok (.ldc 14, 2) := by decide +kernel
theorem dX9_init_50 : decode cX9_init 50 = .ok (.iastore, 1) := by decide +kernel
theorem dX9_init_51 : decode cX9_init 51 = .ok (.dup, 1) := by decide +kernel
theorem dX9_init_52 : decode cX9_init 52 = .ok (.bipush 8, 2) := by decide +kernel
theorem dX9_init_54 : decode cX9_init 54 = .ok (.ldc 15, 2) := by decide +kernel
theorem dX9_init_56 : decode cX9_init 56 = .ok (.iastore, 1) := by decide +kernel
theorem dX9_init_57 : decode cX9_init 57 = .ok (.dup, 1) := by decide +kernel
theorem dX9_init_58 : decode cX9_init 58 = .ok (.bipush 9, 2) := by decide +kernel
theorem dX9_init_60 : decode cX9_init 60 = .ok (.ldc 16, 2) := by decide +kernel
theorem dX9_init_62 : decode cX9_init 62 = .ok (.iastore, 1) := by decide +kernel
theorem dX9_init_63 : decode cX9_init 63 = .ok (.dup, 1) := by decide +kernel
theorem dX9_init_64 : decode cX9_init 64 = .ok (.bipush 10, 2) := by decide +kernel
theorem dX9_init_66 : decode cX9_init 66 = .ok (.ldc 17, 2) := by decide +kernel
theorem dX9_init_68 : decode cX9_init 68 = .ok (.iastore, 1) := by decide +kernel
theorem dX9_init_69 : decode cX9_init 69 = .ok (.dup, 1) := by decide +kernel
theorem dX9_init_70 : decode cX9_init 70 = .ok (.bipush 11, 2) := by decide +kernel
theorem dX9_init_72 : decode cX9_init 72 = .ok (.ldc 18, 2) := by decide +kernel
theorem dX9_init_74 : decode cX9_init 74 = .ok (.iastore, 1) := by decide +kernel
theorem dX9_init_75 : decode cX9_init 75 = .ok (.dup, 1) := by decide +kernel
theorem dX9_init_76 : decode cX9_init 76 = .ok (.bipush 12, 2) := by decide +kernel
theorem dX9_init_78 : decode cX9_init 78 = .ok (.ldc 19, 2) := by decide +kernel
theorem dX9_init_80 : decode cX9_init 80 = .ok (.iastore, 1) := by decide +kernel
theorem dX9_init_81 : decode cX9_init 81 = .ok (.dup, 1) := by decide +kernel
theorem dX9_init_82 : decode cX9_init 82 = .ok (.bipush 13, 2) := by decide +kernel
theorem dX9_init_84 : decode cX9_init 84 = .ok (.ldc 20, 2) := by decide +kernel
theorem dX9_init_86 : decode cX9_init 86 = .ok (.iastore, 1) := by decide +kernel
theorem dX9_init_87 : decode cX9_init 87 = .ok (.dup, 1) := by decide +kernel
theorem dX9_init_88 : decode cX9_init 88 = .ok (.bipush 14, 2) := by decide +kernel
theorem dX9_init_90 : decode cX9_init 90 = .ok (.ldc 21, 2) := by decide +kernel
theorem dX9_init_92 : decode cX9_init 92 = .ok (.iastore, 1) := by decide +kernel
theorem dX9_init_93 : decode cX9_init 93 = .ok (.dup, 1) := by decide +kernel
theorem dX9_init_94 : decode cX9_init 94 = .ok (.bipush 15, 2) := by decide +kernel
theorem dX9_init_96 : decode cX9_init 96 = .ok (.ldc 22, 2) := by decide +kernel
theorem dX9_init_98 : decode cX9_init 98 = .ok (.iastore, 1) := by decide +kernel
theorem dX9_init_99 : decode cX9_init 99 = .ok (.dup, 1) := by decide +kernel
theorem dX9_init_100 : decode cX9_init 100 = .ok (.bipush 16, 2) := by decide +kernel
theorem dX9_init_102 : decode cX9_init 102 = .ok (.ldc 23, 2) := by decide +kernel
theorem dX9_init_104 : decode cX9_init 104 = .ok (.iastore, 1) := by decide +kernel
theorem dX9_init_105 : decode cX9_init 105 = .ok (.dup, 1) := by decide +kernel
theorem dX9_init_106 : decode cX9_init 106 = .ok (.bipush 17, 2) := by decide +kernel
theorem dX9_init_108 : decode cX9_init 108 = .ok (.ldc 24, 2) := by decide +kernel
theorem dX9_init_110 : decode cX9_init 110 = .ok (.iastore, 1) := by decide +kernel
theorem dX9_init_111 : decode cX9_init 111 = .ok (.dup, 1) := by decide +kernel
theorem dX9_init_112 : decode cX9_init 112 = .ok (.bipush 18, 2) := by decide +kernel
theorem dX9_init_114 : decode cX9_init 114 = .ok (.ldc 25, 2) := by decide +kernel
theorem dX9_init_116 : decode cX9_init 116 = .ok (.iastore, 1) := by decide +kernel
theorem dX9_init_117 : decode cX9_init 117 = .ok (.dup, 1) := by decide +kernel
theorem dX9_init_118 : decode cX9_init 118 = .ok (.bipush 19, 2) := by decide +kernel
theorem dX9_init_120 : decode cX9_init 120 = .ok (.ldc 26, 2) := by decide +kernel
theorem dX9_init_122 : decode cX9_init 122 = .ok (.iastore, 1) := by decide +kernel
theorem dX9_init_123 : decode cX9_init 123 = .ok (.dup, 1) := by decide +kernel
theorem dX9_init_124 : decode cX9_init 124 = .ok (.bipush 20, 2) := by decide +kernel
theorem dX9_init_126 : decode cX9_init 126 = .ok (.ldc 27, 2) := by decide +kernel
theorem dX9_init_128 : decode cX9_init 128 = .ok (.iastore, 1) := by decide +kernel
theorem dX9_init_129 : decode cX9_init 129 = .ok (.dup, 1) := by decide +kernel
theorem dX9_init_130 : decode cX9_init 130 = .ok (.bipush 21, 2) := by decide +kernel
theorem dX9_init_132 : decode cX9_init 132 = .ok (.ldc 28, 2) := by decide +kernel
theorem dX9_init_134 : decode cX9_init 134 = .ok (.iastore, 1) := by decide +kernel
theorem dX9_init_135 : decode cX9_init 135 = .ok (.dup, 1) := by decide +kernel
theorem dX9_init_136 : decode cX9_init 136 = .ok (.bipush 22, 2) := by decide +kernel
theorem dX9_init_138 : decode cX9_init 138 = .ok (.ldc 29, 2) := by decide +kernel
theorem dX9_init_140 : decode cX9_init 140 = .ok (.iastore, 1) := by decide +kernel
theorem dX9_init_141 : decode cX9_init 141 = .ok (.dup, 1) := by decide +kernel
theorem dX9_init_142 : decode cX9_init 142 = .ok (.bipush 23, 2) := by decide +kernel
theorem dX9_init_144 : decode cX9_init 144 = .ok (.ldc 30, 2) := by decide +kernel
theorem dX9_init_146 : decode cX9_init 146 = .ok (.iastore, 1) := by decide +kernel
theorem dX9_init_147 : decode cX9_init 147 = .ok (.dup, 1) := by decide +kernel
theorem dX9_init_148 : decode cX9_init 148 = .ok (.bipush 24, 2) := by decide +kernel
theorem dX9_init_150 : decode cX9_init 150 = .ok (.ldc 31, 2) := by decide +kernel
theorem dX9_init_152 : decode cX9_init 152 = .ok (.iastore, 1) := by decide +kernel
theorem dX9_init_153 : decode cX9_init 153 = .ok (.dup, 1) := by decide +kernel
theorem dX9_init_154 : decode cX9_init 154 = .ok (.bipush 25, 2) := by decide +kernel
theorem dX9_init_156 : decode cX9_init 156 = .ok (.ldc 32, 2) := by decide +kernel
theorem dX9_init_158 : decode cX9_init 158 = .ok (.iastore, 1) := by decide +kernel
theorem dX9_init_159 : decode cX9_init 159 = .ok (.dup, 1) := by decide +kernel
theorem dX9_init_160 : decode cX9_init 160 = .ok (.bipush 26, 2) := by decide +kernel
theorem dX9_init_162 : decode cX9_init 162 = .ok (.ldc 33, 2) := by decide +kernel
theorem dX9_init_164 : decode cX9_init 164 = .ok (.iastore, 1) := by decide +kernel
theorem dX9_init_165 : decode cX9_init 165 = .ok (.dup, 1) := by decide +kernel
theorem dX9_init_166 : decode cX9_init 166 = .ok (.bipush 27, 2) := by decide +kernel
theorem dX9_init_168 : decode cX9_init 168 = .ok (.ldc 34, 2) := by decide +kernel
theorem dX9_init_170 : decode cX9_init 170 = .ok (.iastore, 1) := by decide +kernel
theorem dX9_init_171 : decode cX9_init 171 = .ok (.dup, 1) := by decide +kernel
theorem dX9_init_172 : decode cX9_init 172 = .ok (.bipush 28, 2) := by decide +kernel
theorem dX9_init_174 : decode cX9_init 174 = .ok (.ldc 35, 2) := by decide +kernel
theorem dX9_init_176 : decode cX9_init 176 = .ok (.iastore, 1) := by decide +kernel
theorem dX9_init_177 : decode cX9_init 177 = .ok (.dup, 1) := by decide +kernel
theorem dX9_init_178 : decode cX9_init 178 = .ok (.bipush 29, 2) := by decide +kernel
theorem dX9_init_180 : decode cX9_init 180 = .ok (.ldc 36, 2) := by decide +kernel
theorem dX9_init_182 : decode cX9_init 182 = .ok (.iastore, 1) := by decide +kernel
theorem dX9_init_183 : decode cX9_init 183 = .ok (.dup, 1) := by decide +kernel
theorem dX9_init_184 : decode cX9_init 184 = .ok (.bipush 30, 2) := by decide +kernel
theorem dX9_init_186 : decode cX9_init 186 = .ok (.ldc 37, 2) := by decide +kernel
theorem dX9_init_188 : decode cX9_init 188 = .ok (.iastore, 1) := by decide +kernel
theorem dX9_init_189 : decode cX9_init 189 = .ok (.dup, 1) := by decide +kernel
theorem dX9_init_190 : decode cX9_init 190 = .ok (.bipush 31, 2) := by decide +kernel
theorem dX9_init_192 : decode cX9_init 192 = .ok (.ldc 38, 2) := by decide +kernel
theorem dX9_init_194 : decode cX9_init 194 = .ok (.iastore, 1) := by decide +kernel
theorem dX9_init_195 : decode cX9_init 195 = .ok (.dup, 1) := by decide +kernel
theorem dX9_init_196 : decode cX9_init 196 = .ok (.bipush 32, 2) := by decide +kernel
theorem dX9_init_198 : decode cX9_init 198 = .ok (.ldc 39, 2) := by decide +kernel
theorem dX9_init_200 : decode cX9_init 200 = .ok (.iastore, 1) := by decide +kernel
theorem dX9_init_201 : decode cX9_init 201 = .ok (.dup, 1) := by decide +kernel
theorem dX9_init_202 : decode cX9_init 202 = .ok (.bipush 33, 2) := by decide +kernel
theorem dX9_init_204 : decode cX9_init 204 = .ok (.ldc 40, 2) := by decide +kernel
theorem dX9_init_206 : decode cX9_init 206 = .ok (.iastore, 1) := by decide +kernel
theorem dX9_init_207 : decode cX9_init 207 = .ok (.dup, 1) := by decide +kernel
theorem dX9_init_208 : decode cX9_init 208 = .ok (.bipush 34, 2) := by decide +kernel
theorem dX9_init_210 : decode cX9_init 210 = .ok (.ldc 41, 2) := by decide +kernel
theorem dX9_init_212 : decode cX9_init 212 = .ok (.iastore, 1) := by decide +kernel
theorem dX9_init_213 : decode cX9_init 213 = .ok (.dup, 1) := by decide +kernel
theorem dX9_init_214 : decode cX9_init 214 = .ok (.bipush 35, 2) := by decide +kernel
theorem dX9_init_216 : decode cX9_init 216 = .ok (.ldc 42, 2) := by decide +kernel
theorem dX9_init_218 : decode cX9_init 218 = .ok (.iastore, 1) := by decide +kernel
theorem dX9_init_219 : decode cX9_init 219 = .ok (.dup, 1) := by decide +kernel
theorem dX9_init_220 : decode cX9_init 220 = .ok (.bipush 36, 2) := by decide +kernel
theorem dX9_init_222 : decode cX9_init 222 = .ok (.ldc 43, 2) := by decide +kernel
theorem dX9_init_224 : decode cX9_init 224 = .ok (.iastore, 1) := by decide +kernel
theorem dX9_init_225 : decode cX9_init 225 = .ok (.dup, 1) := by decide +kernel
theorem dX9_init_226 : decode cX9_init 226 = .ok (.bipush 37, 2) := by decide +kernel
theorem dX9_init_228 : decode cX9_init 228 = .ok (.ldc 44, 2) := by decide +kernel
theorem dX9_init_230 : decode cX9_init 230 = .ok (.iastore, 1) := by decide +kernel
theorem dX9_init_231 : decode cX9_init 231 = .ok (.dup, 1) := by decide +kernel
theorem dX9_init_232 : decode cX9_init 232 = .ok (.bipush 38, 2) := by decide +kernel
theorem dX9_init_234 : decode cX9_init 234 = .ok (.ldc 45, 2) := by decide +kernel
theorem dX9_init_236 : decode cX9_init 236 = .ok (.iastore, 1) := by decide +kernel
theorem dX9_init_237 : decode cX9_init 237 = .ok (.dup, 1) := by decide +kernel
theorem dX9_init_238 : decode cX9_init 238 = .ok (.bipush 39, 2) := by decide +kernel
theorem dX9_init_240 : decode cX9_init 240 = .ok (.ldc 46, 2) := by decide +kernel
theorem dX9_init_242 : decode cX9_init 242 = .ok (.iastore, 1) := by decide +kernel
theorem dX9_init_243 : decode cX9_init 243 = .ok (.dup, 1) := by decide +kernel
theorem dX9_init_244 : decode cX9_init 244 = .ok (.bipush 40, 2) := by decide +kernel
theorem dX9_init_246 : decode cX9_init 246 = .ok (.ldc 47, 2) := by decide +kernel
theorem dX9_init_248 : decode cX9_init 248 = .ok (.iastore, 1) := by decide +kernel
theorem dX9_init_249 : decode cX9_init 249 = .ok (.dup, 1) := by decide +kernel
theorem dX9_init_250 : decode cX9_init 250 = .ok (.bipush 41, 2) := by decide +kernel
theorem dX9_init_252 : decode cX9_init 252 = .ok (.ldc 48, 2) := by decide +kernel
theorem dX9_init_254 : decode cX9_init 254 = .ok (.iastore, 1) := by decide +kernel
theorem dX9_init_255 : decode cX9_init 255 = .ok (.dup, 1) := by decide +kernel
theorem dX9_init_256 : decode cX9_init 256 = .ok (.bipush 42, 2) := by decide +kernel
theorem dX9_init_258 : decode cX9_init 258 = .ok (.ldc 49, 2) := by decide +kernel
theorem dX9_init_260 : decode cX9_init 260 = .ok (.iastore, 1) := by decide +kernel
theorem dX9_init_261 : decode cX9_init 261 = .ok (.dup, 1) := by decide +kernel
theorem dX9_init_262 : decode cX9_init 262 = .ok (.bipush 43, 2) := by decide +kernel
theorem dX9_init_264 : decode cX9_init 264 = .ok (.ldc 50, 2) := by decide +kernel
theorem dX9_init_266 : decode cX9_init 266 = .ok (.iastore, 1) := by decide +kernel
theorem dX9_init_267 : decode cX9_init 267 = .ok (.dup, 1) := by decide +kernel
theorem dX9_init_268 : decode cX9_init 268 = .ok (.bipush 44, 2) := by decide +kernel
theorem dX9_init_270 : decode cX9_init 270 = .ok (.ldc 51, 2) := by decide +kernel
theorem dX9_init_272 : decode cX9_init 272 = .ok (.iastore, 1) := by decide +kernel
theorem dX9_init_273 : decode cX9_init 273 = .ok (.dup, 1) := by decide +kernel
theorem dX9_init_274 : decode cX9_init 274 = .ok (.bipush 45, 2) := by decide +kernel
theorem dX9_init_276 : decode cX9_init 276 = .ok (.ldc 52, 2) := by decide +kernel
theorem dX9_init_278 : decode cX9_init 278 = .ok (.iastore, 1) := by decide +kernel
theorem dX9_init_279 : decode cX9_init 279 = .ok (.dup, 1) := by decide +kernel
theorem dX9_init_280 : decode cX9_init 280 = .ok (.bipush 46, 2) := by decide +kernel
theorem dX9_init_282 : decode cX9_init 282 = .ok (.ldc 53, 2) := by decide +kernel
theorem dX9_init_284 : decode cX9_init 284 = .ok (.iastore, 1) := by decide +kernel
theorem dX9_init_285 : decode cX9_init 285 = .ok (.dup, 1) := by decide +kernel
theorem dX9_init_286 : decode cX9_init 286 = .ok (.bipush 47, 2) := by decide +kernel
theorem dX9_init_288 : decode cX9_init 288 = .ok (.ldc 54, 2) := by decide +kernel
theorem dX9_init_290 : decode cX9_init 290 = .ok (.iastore, 1) := by decide +kernel
theorem dX9_init_291 : decode cX9_init 291 = .ok (.dup, 1) := by decide +kernel
theorem dX9_init_292 : decode cX9_init 292 = .ok (.bipush 48, 2) := by decide +kernel
theorem dX9_init_294 : decode cX9_init 294 = .ok (.ldc 55, 2) := by decide +kernel
theorem dX9_init_296 : decode cX9_init 296 = .ok (.iastore, 1) := by decide +kernel
theorem dX9_init_297 : decode cX9_init 297 = .ok (.dup, 1) := by decide +kernel
theorem dX9_init_298 : decode cX9_init 298 = .ok (.bipush 49, 2) := by decide +kernel
theorem dX9_init_300 : decode cX9_init 300 = .ok (.ldc 56, 2) := by decide +kernel
theorem dX9_init_302 : decode cX9_init 302 = .ok (.iastore, 1) := by decide +kernel
theorem dX9_init_303 : decode cX9_init 303 = .ok (.dup, 1) := by decide +kernel
theorem dX9_init_304 : decode cX9_init 304 = .ok (.bipush 50, 2) := by decide +kernel
theorem dX9_init_306 : decode cX9_init 306 = .ok (.ldc 57, 2) := by decide +kernel
theorem dX9_init_308 : decode cX9_init 308 = .ok (.iastore, 1) := by decide +kernel
theorem dX9_init_309 : decode cX9_init 309 = .ok (.dup, 1) := by decide +kernel
theorem dX9_init_310 : decode cX9_init 310 = .ok (.bipush 51, 2) := by decide +kernel
theorem dX9_init_312 : decode cX9_init 312 = .ok (.ldc 58, 2) := by decide +kernel
theorem dX9_init_314 : decode cX9_init 314 = .ok (.iastore, 1) := by decide +kernel
theorem dX9_init_315 : decode cX9_init 315 = .ok (.dup, 1) := by decide +kernel
theorem dX9_init_316 : decode cX9_init 316 = .ok (.bipush 52, 2) := by decide +kernel
theorem dX9_init_318 : decode cX9_init 318 = .ok (.ldc 59, 2) := by decide +kernel
theorem dX9_init_320 : decode cX9_init 320 = .ok (.iastore, 1) := by decide +kernel
theorem dX9_init_321 : decode cX9_init 321 = .ok (.dup, 1) := by decide +kernel
theorem dX9_init_322 : decode cX9_init 322 = .ok (.bipush 53, 2) := by decide +kernel
theorem dX9_init_324 : decode cX9_init 324 = .ok (.ldc 60, 2) := by decide +kernel
theorem dX9_init_326 : decode cX9_init 326 = .ok (.iastore, 1) := by decide +kernel
theorem dX9_init_327 : decode cX9_init 327 = .ok (.dup, 1) := by decide +kernel
theorem dX9_init_328 : decode cX9_init 328 = .ok (.bipush 54, 2) := by decide +kernel
theorem dX9_init_330 : decode cX9_init 330 = .ok (.ldc 61, 2) := by decide +kernel
theorem dX9_init_332 : decode cX9_init 332 = .ok (.iastore, 1) := by decide +kernel
theorem dX9_init_333 : decode cX9_init 333 = .ok (.dup, 1) := by decide +kernel
theorem dX9_init_334 : decode cX9_init 334 = .ok (.bipush 55, 2) := by decide +kernel
theorem dX9_init_336 : decode cX9_init 336 = .ok (.ldc 62, 2) := by decide +kernel
theorem dX9_init_338 : decode cX9_init 338 = .ok (.iastore, 1) := by decide +kernel
theorem dX9_init_339 : decode cX9_init 339 = .ok (.dup, 1) := by decide +kernel
theorem dX9_init_340 : decode cX9_init 340 = .ok (.bipush 56, 2) := by decide +kernel
theorem dX9_init_342 : decode cX9_init 342 = .ok (.ldc 63, 2) := by decide +kernel
theorem dX9_init_344 : decode cX9_init 344 = .ok (.iastore, 1) := by decide +kernel
theorem dX9_init_345 : decode cX9_init 345 = .ok (.dup, 1) := by decide +kernel
theorem dX9_init_346 : decode cX9_init 346 = .ok (.bipush 57, 2) := by decide +kernel
theorem dX9_init_348 : decode cX9_init 348 = .ok (.ldc 64, 2) := by decide +kernel
theorem dX9_init_350 : decode cX9_init 350 = .ok (.iastore, 1) := by decide +kernel
theorem dX9_init_351 : decode cX9_init 351 = .ok (.dup, 1) := by decide +kernel
theorem dX9_init_352 : decode cX9_init 352 = .ok (.bipush 58, 2) := by decide +kernel
theorem dX9_init_354 : decode cX9_init 354 = .ok (.ldc 65, 2) := by decide +kernel
theorem dX9_init_356 : decode cX9_init 356 = .ok (.iastore, 1) := by decide +kernel
theorem dX9_init_357 : decode cX9_init 357 = .ok (.dup, 1) := by decide +kernel
theorem dX9_init_358 : decode cX9_init 358 = .ok (.bipush 59, 2) := by decide +kernel
theorem dX9_init_360 : decode cX9_init 360 = .ok (.ldc 66, 2) := by decide +kernel
theorem dX9_init_362 : decode cX9_init 362 = .ok (.iastore, 1) := by decide +kernel
theorem dX9_init_363 : decode cX9_init 363 = .ok (.dup, 1) := by decide +kernel
theorem dX9_init_364 : decode cX9_init 364 = .ok (.bipush 60, 2) := by decide +kernel
theorem dX9_init_366 : decode cX9_init 366 = .ok (.ldc 67, 2) := by decide +kernel
theorem dX9_init_368 : decode cX9_init 368 = .ok (.iastore, 1) := by decide +kernel
theorem dX9_init_369 : decode cX9_init 369 = .ok (.dup, 1) := by decide +kernel
theorem dX9_init_370 : decode cX9_init 370 = .ok (.bipush 61, 2) := by decide +kernel
theorem dX9_init_372 : decode cX9_init 372 = .ok (.ldc 68, 2) := by decide +kernel
theorem dX9_init_374 : decode cX9_init 374 = .ok (.iastore, 1) := by decide +kernel
theorem dX9_init_375 : decode cX9_init 375 = .ok (.dup, 1) := by decide +kernel
theorem dX9_init_376 : decode cX9_init 376 = .ok (.bipush 62, 2) := by decide +kernel
theorem dX9_init_378 : decode cX9_init 378 = .ok (.ldc 69, 2) := by decide +kernel
theorem dX9_init_380 : decode cX9_init 380 = .ok (.iastore, 1) := by decide +kernel
theorem dX9_init_381 : decode cX9_init 381 = .ok (.dup, 1) := by decide +kernel
theorem dX9_init_382 : decode cX9_init 382 = .ok (.bipush 63, 2) := by decide +kernel
theorem dX9_init_384 : decode cX9_init 384 = .ok (.ldc 70, 2) := by decide +kernel
theorem dX9_init_386 : decode cX9_init 386 = .ok (.iastore, 1) := by decide +kernel
theorem dX9_init_387 : decode cX9_init 387 = .ok (.putfield 71, 3) := by decide +kernel
theorem dX9_init_390 : decode cX9_init 390 = .ok (.aload_n 0, 1) := by decide +kernel
theorem dX9_init_391 : decode cX9_init 391 = .ok (.bipush 8, 2) := by decide +kernel
theorem dX9_init_393 : decode cX9_init 393 = .ok (.newarray .int, 2) := by decide +kernel
theorem dX9_init_395 : decode cX9_init 395 = .ok (.dup, 1) := by decide +kernel
theorem dX9_init_396 : decode cX9_init 396 = .ok (.iconst 0, 1) := by decide +kernel
theorem dX9_init_397 : decode cX9_init 397 = .ok (.ldc 77, 2) := by decide +kernel
theorem dX9_init_399 : decode cX9_init 399 = .ok (.iastore, 1) := by decide +kernel
theorem dX9_init_400 : decode cX9_init 400 = .ok (.dup, 1) := by decide +kernel
theorem dX9_init_401 : decode cX9_init 401 = .ok (.iconst 1, 1) := by decide +kernel
theorem dX9_init_402 : decode cX9_init 402 = .ok (.ldc 78, 2) := by decide +kernel
theorem dX9_init_404 : decode cX9_init 404 = .ok (.iastore, 1) := by decide +kernel
theorem dX9_init_405 : decode cX9_init 405 = .ok (.dup, 1) := by decide +kernel
theorem dX9_init_406 : decode cX9_init 406 = .ok (.iconst 2, 1) := by decide +kernel
theorem dX9_init_407 : decode cX9_init 407 = .ok (.ldc 79, 2) := by decide +kernel
theorem dX9_init_409 : decode cX9_init 409 = .ok (.iastore, 1) := by decide +kernel
theorem dX9_init_410 : decode cX9_init 410 = .ok (.dup, 1) := by decide +kernel
theorem dX9_init_411 : decode cX9_init 411 = .ok (.iconst 3, 1) := by decide +kernel
theorem dX9_init_412 : decode cX9_init 412 = .ok (.ldc 80, 2) := by decide +kernel
theorem dX9_init_414 : decode cX9_init 414 = .ok (.iastore, 1) := by decide +kernel
theorem dX9_init_415 : decode cX9_init 415 = .ok (.dup, 1) := by decide +kernel
theorem dX9_init_416 : decode cX9_init 416 = .ok (.iconst 4, 1) := by decide +kernel
theorem dX9_init_417 : decode cX9_init 417 = .ok (.ldc 81, 2) := by decide +kernel
theorem dX9_init_419 : decode cX9_init 419 = .ok (.iastore, 1) := by decide +kernel
theorem dX9_init_420 : decode cX9_init 420 = .ok (.dup, 1) := by decide +kernel
theorem dX9_init_421 : decode cX9_init 421 = .ok (.iconst 5, 1) := by decide +kernel
theorem dX9_init_422 : decode cX9_init 422 = .ok (.ldc 82, 2) := by decide +kernel
theorem dX9_init_424 : decode cX9_init 424 = .ok (.iastore, 1) := by decide +kernel
theorem dX9_init_425 : decode cX9_init 425 = .ok (.dup, 1) := by decide +kernel
theorem dX9_init_426 : decode cX9_init 426 = .ok (.bipush 6, 2) := by decide +kernel
theorem dX9_init_428 : decode cX9_init 428 = .ok (.ldc 83, 2) := by decide +kernel
theorem dX9_init_430 : decode cX9_init 430 = .ok (.iastore, 1) := by decide +kernel
theorem dX9_init_431 : decode cX9_init 431 = .ok (.dup, 1) := by decide +kernel
theorem dX9_init_432 : decode cX9_init 432 = .ok (.bipush 7, 2) := by decide +kernel
theorem dX9_init_434 : decode cX9_init 434 = .ok (.ldc 84, 2) := by decide +kernel
theorem dX9_init_436 : decode cX9_init 436 = .ok (.iastore, 1) := by decide +kernel
theorem dX9_init_437 : decode cX9_init 437 = .ok (.putfield 85, 3) := by decide +kernel
theorem dX9_init_440 : decode cX9_init 440 = .ok (.aload_n 0, 1) := by decide +kernel
theorem dX9_init_441 : decode cX9_init 441 = .ok (.sipush 2016, 3) := by decide +kernel
theorem dX9_init_444 : decode cX9_init 444 = .ok (.newarray .int, 2) := by decide +kernel
theorem dX9_init_446 : decode cX9_init 446 = .ok (.putfield 88, 3) := by decide +kernel
theorem dX9_init_449 : decode cX9_init 449 = .ok (.aload_n 0, 1) := by decide +kernel
theorem dX9_init_450 : decode cX9_init 450 = .ok (.sipush 336, 3) := by decide +kernel
theorem dX9_init_453 : decode cX9_init 453 = .ok (.newarray .int, 2) := by decide +kernel
theorem dX9_init_455 : decode cX9_init 455 = .ok (.putfield 91, 3) := by decide +kernel
theorem dX9_init_458 : decode cX9_init 458 = .ok (.aload_n 0, 1) := by decide +kernel
theorem dX9_init_459 : decode cX9_init 459 = .ok (.sipush 1152, 3) := by decide +kernel
theorem dX9_init_462 : decode cX9_init 462 = .ok (.newarray .int, 2) := by decide +kernel
theorem dX9_init_464 : decode cX9_init 464 = .ok (.putfield 94, 3) := by decide +kernel
theorem dX9_init_467 : decode cX9_init 467 = .ok (.aload_n 0, 1) := by decide +kernel
theorem dX9_init_468 : decode cX9_init 468 = .ok (.bipush 96, 2) := by decide +kernel
theorem dX9_init_470 : decode cX9_init 470 = .ok (.newarray .int, 2) := by decide +kernel
theorem dX9_init_472 : decode cX9_init 472 = .ok (.putfield 97, 3) := by decide +kernel
theorem dX9_init_475 : decode cX9_init 475 = .ok (.aload_n 0, 1) := by decide +kernel
theorem dX9_init_476 : decode cX9_init 476 = .ok (.iconst 1, 1) := by decide +kernel
theorem dX9_init_477 : decode cX9_init 477 = .ok (.putfield 100, 3) := by decide +kernel
theorem dX9_init_480 : decode cX9_init 480 = .ok (.aload_n 0, 1) := by decide +kernel
theorem dX9_init_481 : decode cX9_init 481 = .ok (.iconst 4, 1) := by decide +kernel
theorem dX9_init_482 : decode cX9_init 482 = .ok (.newarray .int, 2) := by decide +kernel
theorem dX9_init_484 : decode cX9_init 484 = .ok (.putfield 104, 3) := by decide +kernel
theorem dX9_init_487 : decode cX9_init 487 = .ok (.aload_n 0, 1) := by decide +kernel
theorem dX9_init_488 : decode cX9_init 488 = .ok (.bipush 64, 2) := by decide +kernel
theorem dX9_init_490 : decode cX9_init 490 = .ok (.newarray .int, 2) := by decide +kernel
theorem dX9_init_492 : decode cX9_init 492 = .ok (.putfield 107, 3) := by decide +kernel
theorem dX9_init_495 : decode cX9_init 495 = .ok (.aload_n 0, 1) := by decide +kernel
theorem dX9_init_496 : decode cX9_init 496 = .ok (.bipush 12, 2) := by decide +kernel
theorem dX9_init_498 : decode cX9_init 498 = .ok (.newarray .int, 2) := by decide +kernel
theorem dX9_init_500 : decode cX9_init 500 = .ok (.putfield 110, 3) := by decide +kernel
theorem dX9_init_503 : decode cX9_init 503 = .ok (.aload_n 0, 1) := by decide +kernel
theorem dX9_init_504 : decode cX9_init 504 = .ok (.sipush 256, 3) := by decide +kernel
theorem dX9_init_507 : decode cX9_init 507 = .ok (.newarray .int, 2) := by decide +kernel
theorem dX9_init_509 : decode cX9_init 509 = .ok (.putfield 113, 3) := by decide +kernel
theorem dX9_init_512 : decode cX9_init 512 = .ok (.aload_n 0, 1) := by decide +kernel
theorem dX9_init_513 : decode cX9_init 513 = .ok (.bipush 32, 2) := by decide +kernel
theorem dX9_init_515 : decode cX9_init 515 = .ok (.newarray .int, 2) := by decide +kernel
theorem dX9_init_517 : decode cX9_init 517 = .ok (.putfield 116, 3) := by decide +kernel
theorem dX9_init_520 : decode cX9_init 520 = .ok (.aload_n 0, 1) := by decide +kernel
theorem dX9_init_521 : decode cX9_init 521 = .ok (.bipush 32, 2) := by decide +kernel
theorem dX9_init_523 : decode cX9_init 523 = .ok (.newarray .int, 2) := by decide +kernel
theorem dX9_init_525 : decode cX9_init 525 = .ok (.putfield 119, 3) := by decide +kernel
theorem dX9_init_528 : decode cX9_init 528 = .ok (.aload_n 0, 1) := by decide +kernel
theorem dX9_init_529 : decode cX9_init 529 = .ok (.bipush 64, 2) := by decide +kernel
theorem dX9_init_531 : decode cX9_init 531 = .ok (.newarray .int, 2) := by decide +kernel
theorem dX9_init_533 : decode cX9_init 533 = .ok (.putfield 122, 3) := by decide +kernel
theorem dX9_init_536 : decode cX9_init 536 = .ok (.aload_n 0, 1) := by decide +kernel
theorem dX9_init_537 : decode cX9_init 537 = .ok (.bipush 8, 2) := by decide +kernel
theorem dX9_init_539 : decode cX9_init 539 = .ok (.newarray .int, 2) := by decide +kernel
theorem dX9_init_541 : decode cX9_init 541 = .ok (.putfield 125, 3) := by decide +kernel
theorem dX9_init_544 : decode cX9_init 544 = .ok (.aload_n 0, 1) := by decide +kernel
theorem dX9_init_545 : decode cX9_init 545 = .ok (.sipush 512, 3) := by decide +kernel
theorem dX9_init_548 : decode cX9_init 548 = .ok (.newarray .int, 2) := by decide +kernel
theorem dX9_init_550 : decode cX9_init 550 = .ok (.putfield 128, 3) := by decide +kernel
theorem dX9_init_553 : decode cX9_init 553 = .ok (.aload_n 0, 1) := by decide +kernel
theorem dX9_init_554 : decode cX9_init 554 = .ok (.bipush 64, 2) := by decide +kernel
theorem dX9_init_556 : decode cX9_init 556 = .ok (.newarray .int, 2) := by decide +kernel
theorem dX9_init_558 : decode cX9_init 558 = .ok (.putfield 131, 3) := by decide +kernel
theorem dX9_init_561 : decode cX9_init 561 = .ok (.aload_n 0, 1) := by decide +kernel
theorem dX9_init_562 : decode cX9_init 562 = .ok (.iconst 0, 1) := by decide +kernel
theorem dX9_init_563 : decode cX9_init 563 = .ok (.invokevirtual 134, 3) := by decide +kernel
theorem dX9_init_566 : decode cX9_init 566 = .ok (.iconst 0, 1) := by decide +kernel
theorem dX9_init_567 : decode cX9_init 567 = .ok (.istore_n 1, 1) := by decide +kernel
theorem dX9_init_568 : decode cX9_init 568 = .ok (.iload_n 1, 1) := by decide +kernel
theorem dX9_init_569 : decode cX9_init 569 = .ok (.iconst 4, 1) := by decide +kernel
theorem dX9_init_570 : decode cX9_init 570 = .ok (.if_icmp .ge 54, 3) := by decide +kernel
theorem dX9_init_573 : decode cX9_init 573 = .ok (.iconst 0, 1) := by decide +kernel
theorem dX9_init_574 : decode cX9_init 574 = .ok (.istore_n 2, 1) := by decide +kernel
theorem dX9_init_575 : decode cX9_init 575 = .ok (.iload_n 2, 1) := by decide +kernel
theorem dX9_init_576 : decode cX9_init 576 = .ok (.bipush 84, 2) := by decide +kernel
theorem dX9_init_578 : decode cX9_init 578 = .ok (.if_icmp .ge 29, 3) := by decide +kernel
theorem dX9_init_581 : decode cX9_init 581 = .ok (.aload_n 0, 1) := by decide +kernel
theorem dX9_init_582 : decode cX9_init 582 = .ok (.getfield 91, 3) := by decide +kernel
theorem dX9_init_585 : decode cX9_init 585 = .ok (.bipush 84, 2) := by decide +kernel
theorem dX9_init_587 : decode cX9_init 587 = .ok (.iload_n 1, 1) := by decide +kernel
theorem dX9_init_588 : decode cX9_init 588 = .ok (.imul, 1) := by decide +kernel
theorem dX9_init_589 : decode cX9_init 589 = .ok (.iload_n 2, 1) := by decide +kernel
theorem dX9_init_590 : decode cX9_init 590 = .ok (.iadd, 1) := by decide +kernel
theorem dX9_init_591 : decode cX9_init 591 = .ok (.iload_n 2, 1) := by decide +kernel
theorem dX9_init_592 : decode cX9_init 592 = .ok (.ifCond .ne 7, 3) := by decide +kernel
theorem dX9_init_595 : decode cX9_init 595 = .ok (.iload_n 1, 1) := by decide +kernel
theorem dX9_init_596 : decode cX9_init 596 = .ok (.goto 4, 3) := by decide +kernel
theorem dX9_init_599 : decode cX9_init 599 = .ok (.iconst 0, 1) := by decide +kernel
theorem dX9_init_600 : decode cX9_init 600 = .ok (.iastore, 1) := by decide +kernel
theorem dX9_init_601 : decode cX9_init 601 = .ok (.iinc 2 1, 3) := by decide +kernel
theorem dX9_init_604 : decode cX9_init 604 = .ok (.goto (-29), 3) := by decide +kernel
theorem dX9_init_607 : decode cX9_init 607 = .ok (.aload_n 0, 1) := by decide +kernel
theorem dX9_init_608 : decode cX9_init 608 = .ok (.iload_n 1, 1) := by decide +kernel
theorem dX9_init_609 : decode cX9_init 609 = .ok (.invokevirtual 138, 3) := by decide +kernel
theorem dX9_init_612 : decode cX9_init 612 = .ok (.aload_n 0, 1) := by decide +kernel
theorem dX9_init_613 : decode cX9_init 613 = .ok (.iconst 0, 1) := by decide +kernel
theorem dX9_init_614 : decode cX9_init 614 = .ok (.iload_n 1, 1) := by decide +kernel
theorem dX9_init_615 : decode cX9_init 615 = .ok (.invokevirtual 141, 3) := by decide +kernel
theorem dX9_init_618 : decode cX9_init 618 = .ok (.iinc 1 1, 3) := by decide +kernel
theorem dX9_init_621 : decode cX9_init 621 = .ok (.goto (-53), 3) := by decide +kernel
theorem dX9_init_624 : decode cX9_init 624 = .ok (.return_, 1) := by decide +kernel
theorem dX9_add_0 : decode cX9_add 0 = .ok (.aload_n 0, 1) := by decide +kernel
theorem dX9_add_1 : decode cX9_add 1 = .ok (.getfield 113, 3) := by decide +kernel
theorem dX9_add_4 : decode cX9_add 4 = .ok (.aload_n 0, 1) := by decide +kernel
theorem dX9_add_5 : decode cX9_add 5 = .ok (.getfield 145, 3) := by decide +kernel
theorem dX9_add_8 : decode cX9_add 8 = .ok (.iload_n 1, 1) := by decide +kernel
theorem dX9_add_9 : decode cX9_add 9 = .ok (.sipush 255, 3) := by decide +kernel
theorem dX9_add_12 : decode cX9_add 12 = .ok (.iand, 1) := by decide +kernel
theorem dX9_add_13 : decode cX9_add 13 = .ok (.iastore, 1) := by decide +kernel
theorem dX9_add_14 : decode cX9_add 14 = .ok (.aload_n 0, 1) := by decide +kernel
theorem dX9_add_15 : decode cX9_add 15 = .ok (.dup, 1) := by decide +kernel
theorem dX9_add_16 : decode cX9_add 16 = .ok (.getfield 145, 3) := by decide +kernel
theorem dX9_add_19 : decode cX9_add 19 = .ok (.iconst 1, 1) := by decide +kernel
theorem dX9_add_20 : decode cX9_add 20 = .ok (.iadd, 1) := by decide +kernel
theorem dX9_add_21 : decode cX9_add 21 = .ok (.putfield 145, 3) := by decide +kernel
theorem dX9_add_24 : decode cX9_add 24 = .ok (.return_, 1) := by decide +kernel
theorem dX9_right_0 : decode cX9_right 0 = .ok (.iload_n 0, 1) := by decide +kernel
theorem dX9_right_1 : decode cX9_right 1 = .ok (.iload_n 1, 1) := by decide +kernel
theorem dX9_right_2 : decode cX9_right 2 = .ok (.iushr, 1) := by decide +kernel
theorem dX9_right_3 : decode cX9_right 3 = .ok (.iload_n 0, 1) := by decide +kernel
theorem dX9_right_4 : decode cX9_right 4 = .ok (.bipush 32, 2) := by decide +kernel
theorem dX9_right_6 : decode cX9_right 6 = .ok (.iload_n 1, 1) := by decide +kernel
theorem dX9_right_7 : decode cX9_right 7 = .ok (.isub, 1) := by decide +kernel
theorem dX9_right_8 : decode cX9_right 8 = .ok (.ishl, 1) := by decide +kernel
theorem dX9_right_9 : decode cX9_right 9 = .ok (.ior, 1) := by decide +kernel
theorem dX9_right_10 : decode cX9_right 10 = .ok (.ireturn, 1) := by decide +kernel
set_option maxRecDepth 20000 in
theorem ggX9_mix_X9_right : GoodIn wsX9_mix wsX9_right := goodIn_r _ [8] (by decide +kernel) (by decide +kernel)
set_option maxRecDepth 20000 in
theorem gX9_mix_X9_right : GoodIn wsX9_mix (va_wsS RX9 148 yX9_right wsX9_right) := goodIn_app (goodIn_of _ (by decide +kernel)) ggX9_mix_X9_right
theorem dX9_mix_0 : decode cX9_mix 0 = .ok (.iconst 0, 1) := by decide +kernel
theorem dX9_mix_1 : decode cX9_mix 1 = .ok (.istore_n 2, 1) := by decide +kernel
theorem dX9_mix_2 : decode cX9_mix 2 = .ok (.iload_n 2, 1) := by decide +kernel
theorem dX9_mix_3 : decode cX9_mix 3 = .ok (.bipush 16, 2) := by decide +kernel
theorem dX9_mix_5 : decode cX9_mix 5 = .ok (.if_icmp .ge 63, 3) := by decide +kernel
theorem dX9_mix_8 : decode cX9_mix 8 = .ok (.iload_n 1, 1) := by decide +kernel
theorem dX9_mix_9 : decode cX9_mix 9 = .ok (.iconst 4, 1) := by decide +kernel
theorem dX9_mix_10 : decode cX9_mix 10 = .ok (.iload_n 2, 1) := by decide +kernel
theorem dX9_mix_11 : decode cX9_mix 11 = .ok (.imul, 1) := by decide +kernel
theorem dX9_mix_12 : decode cX9_mix 12 = .ok (.iadd, 1) := by decide +kernel
theorem dX9_mix_13 : decode cX9_mix 13 = .ok (.istore_n 3, 1) := by decide +kernel
theorem dX9_mix_14 : decode cX9_mix 14 = .ok (.aload_n 0, 1) := by decide +kernel
theorem dX9_mix_15 : decode cX9_mix 15 = .ok (.getfield 122, 3) := by decide +kernel
theorem dX9_mix_18 : decode cX9_mix 18 = .ok (.iload_n 2, 1) := by decide +kernel
theorem dX9_mix_19 : decode cX9_mix 19 = .ok (.aload_n 0, 1) := by decide +kernel
theorem dX9_mix_20 : decode cX9_mix 20 = .ok (.getfield 113, 3) := by decide +kernel
theorem dX9_mix_23 : decode cX9_mix 23 = .ok (.iload_n 3, 1) := by decide +kernel
theorem dX9_mix_24 : decode cX9_mix 24 = .ok (.iaload, 1) := by decide +kernel
theorem dX9_mix_25 : decode cX9_mix 25 = .ok (.bipush 24, 2) := by decide +kernel
theorem dX9_mix_27 : decode cX9_mix 27 = .ok (.ishl, 1) := by decide +kernel
theorem dX9_mix_28 : decode cX9_mix 28 = .ok (.aload_n 0, 1) := by decide +kernel
theorem dX9_mix_29 : decode cX9_mix 29 = .ok (.getfield 113, 3) := by decide +kernel
theorem dX9_mix_32 : decode cX9_mix 32 = .ok (.iload_n 3, 1) := by decide +kernel
theorem dX9_mix_33 : decode cX9_mix 33 = .ok (.iconst 1, 1) := by decide +kernel
theorem dX9_mix_34 : decode cX9_mix 34 = .ok (.iadd, 1) := by decide +kernel
theorem dX9_mix_35 : decode cX9_mix 35 = .ok (.iaload, 1) := by decide +kernel
theorem dX9_mix_36 : decode cX9_mix 36 = .ok (.bipush 16, 2) := by decide +kernel
theorem dX9_mix_38 : decode cX9_mix 38 = .ok (.ishl, 1) := by decide +kernel
theorem dX9_mix_39 : decode cX9_mix 39 = .ok (.ior, 1) := by decide +kernel
theorem dX9_mix_40 : decode cX9_mix 40 = .ok (.aload_n 0, 1) := by decide +kernel
theorem dX9_mix_41 : decode cX9_mix 41 = .ok (.getfield 113, 3) := by decide +kernel
theorem dX9_mix_44 : decode cX9_mix 44 = .ok (.iload_n 3, 1) := by decide +kernel
theorem dX9_mix_45 : decode cX9_mix 45 = .ok (.iconst 2, 1) := by decide +kernel
theorem dX9_mix_46 : decode cX9_mix 46 = .ok (.iadd, 1) := by decide +kernel
theorem dX9_mix_47 : decode cX9_mix 47 = .ok (.iaload, 1) := by decide +kernel
theorem dX9_mix_48 : decode cX9_mix 48 = .ok (.bipush 8, 2) := by decide +kernel
theorem dX9_mix_50 : decode cX9_mix 50 = .ok (.ishl, 1) := by decide +kernel
theorem dX9_mix_51 : decode cX9_mix 51 = .ok (.ior, 1) := by decide +kernel
theorem dX9_mix_52 : decode cX9_mix 52 = .ok (.aload_n 0, 1) := by decide +kernel
theorem dX9_mix_53 : decode cX9_mix 53 = .ok (.getfield 113, 3) := by decide +kernel
theorem dX9_mix_56 : decode cX9_mix 56 = .ok (.iload_n 3, 1) := by decide +kernel
theorem dX9_mix_57 : decode cX9_mix 57 = .ok (.iconst 3, 1) := by decide +kernel
theorem dX9_mix_58 : decode cX9_mix 58 = .ok (.iadd, 1) := by decide +kernel
theorem dX9_mix_59 : decode cX9_mix 59 = .ok (.iaload, 1) := by decide +kernel
theorem dX9_mix_60 : decode cX9_mix 60 = .ok (.ior, 1) := by decide +kernel
theorem dX9_mix_61 : decode cX9_mix 61 = .ok (.iastore, 1) := by decide +kernel
theorem dX9_mix_62 : decode cX9_mix 62 = .ok (.iinc 2 1, 3) := by decide +kernel
theorem dX9_mix_65 : decode cX9_mix 65 = .ok (.goto (-63), 3) := by decide +kernel
theorem dX9_mix_68 : decode cX9_mix 68 = .ok (.bipush 16, 2) := by decide +kernel
theorem dX9_mix_70 : decode cX9_mix 70 = .ok (.istore_n 2, 1) := by decide +kernel
theorem dX9_mix_71 : decode cX9_mix 71 = .ok (.iload_n 2, 1) := by decide +kernel
theorem dX9_mix_72 : decode cX9_mix 72 = .ok (.bipush 64, 2) := by decide +kernel
theorem dX9_mix_74 : decode cX9_mix 74 = .ok (.if_icmp .ge 94, 3) := by decide +kernel
theorem dX9_mix_77 : decode cX9_mix 77 = .ok (.aload_n 0, 1) := by decide +kernel
theorem dX9_mix_78 : decode cX9_mix 78 = .ok (.getfield 122, 3) := by decide +kernel
theorem dX9_mix_81 : decode cX9_mix 81 = .ok (.iload_n 2, 1) := by decide +kernel
theorem dX9_mix_82 : decode cX9_mix 82 = .ok (.bipush 15, 2) := by decide +kernel
theorem dX9_mix_84 : decode cX9_mix 84 = .ok (.isub, 1) := by decide +kernel
theorem dX9_mix_85 : decode cX9_mix 85 = .ok (.iaload, 1) := by decide +kernel
theorem dX9_mix_86 : decode cX9_mix 86 = .ok (.istore_n 3, 1) := by decide +kernel
theorem dX9_mix_87 : decode cX9_mix 87 = .ok (.aload_n 0, 1) := by decide +kernel
theorem dX9_mix_88 : decode cX9_mix 88 = .ok (.getfield 122, 3) := by decide +kernel
theorem dX9_mix_91 : decode cX9_mix 91 = .ok (.iload_n 2, 1) := by decide +kernel
theorem dX9_mix_92 : decode cX9_mix 92 = .ok (.iconst 2, 1) := by decide +kernel
theorem dX9_mix_93 : decode cX9_mix 93 = .ok (.isub, 1) := by decide +kernel
theorem dX9_mix_94 : decode cX9_mix 94 = .ok (.iaload, 1) := by decide +kernel
theorem dX9_mix_95 : decode cX9_mix 95 = .ok (.istore 4, 2) := by decide +kernel
theorem dX9_mix_97 : decode cX9_mix 97 = .ok (.aload_n 0, 1) := by decide +kernel
theorem dX9_mix_98 : decode cX9_mix 98 = .ok (.getfield 122, 3) := by decide +kernel
theorem dX9_mix_101 : decode cX9_mix 101 = .ok (.iload_n 2, 1) := by decide +kernel
theorem dX9_mix_102 : decode cX9_mix 102 = .ok (.aload_n 0, 1) := by decide +kernel
theorem dX9_mix_103 : decode cX9_mix 103 = .ok (.getfield 122, 3) := by decide +kernel
theorem dX9_mix_106 : decode cX9_mix 106 = .ok (.iload_n 2, 1) := by decide +kernel
theorem dX9_mix_107 : decode cX9_mix 107 = .ok (.bipush 16, 2) := by decide +kernel
theorem dX9_mix_109 : decode cX9_mix 109 = .ok (.isub, 1) := by decide +kernel
theorem dX9_mix_110 : decode cX9_mix 110 = .ok (.iaload, 1) := by decide +kernel
theorem dX9_mix_111 : decode cX9_mix 111 = .ok (.aload_n 0, 1) := by decide +kernel
theorem dX9_mix_112 : decode cX9_mix 112 = .ok (.getfield 122, 3) := by decide +kernel
theorem dX9_mix_115 : decode cX9_mix 115 = .ok (.iload_n 2, 1) := by decide +kernel
theorem dX9_mix_116 : decode cX9_mix 116 = .ok (.bipush 7, 2) := by decide +kernel
theorem dX9_mix_118 : decode cX9_mix 118 = .ok (.isub, 1) := by decide +kernel
theorem dX9_mix_119 : decode cX9_mix 119 = .ok (.iaload, 1) := by decide +kernel
theorem dX9_mix_120 : decode cX9_mix 120 = .ok (.iadd, 1) := by decide +kernel
theorem dX9_mix_121 : decode cX9_mix 121 = .ok (.iload_n 3, 1) := by decide +kernel
theorem dX9_mix_122 : decode cX9_mix 122 = .ok (.bipush 7, 2) := by decide +kernel
theorem dX9_mix_124 : decode cX9_mix 124 = .ok (.invokestatic 148, 3) := by decide +kernel
theorem dX9_mix_127 : decode cX9_mix 127 = .ok (.iload_n 3, 1) := by decide +kernel
theorem dX9_mix_128 : decode cX9_mix 128 = .ok (.bipush 18, 2) := by decide +kernel
theorem dX9_mix_130 : decode cX9_mix 130 = .ok (.invokestatic 148, 3) := by decide +kernel
theorem dX9_mix_133 : decode cX9_mix 133 = .ok (.ixor, 1) := by decide +kernel
theorem dX9_mix_134 : decode cX9_mix 134 = .ok (.iload_n 3, 1) := by decide +kernel
theorem dX9_mix_135 : decode cX9_mix 135 = .ok (.iconst 3, 1) := by decide +kernel
theorem dX9_mix_136 : decode cX9_mix 136 = .ok (.iushr, 1) := by decide +kernel
theorem dX9_mix_137 : decode cX9_mix 137 = .ok (.ixor, 1) := by decide +kernel
theorem dX9_mix_138 : decode cX9_mix 138 = .ok (.iadd, 1) := by decide +kernel
theorem dX9_mix_139 : decode cX9_mix 139 = .ok (.iload 4, 2) := by decide +kernel
theorem dX9_mix_141 : decode cX9_mix 141 = .ok (.bipush 17, 2) := by decide +kernel
theorem dX9_mix_143 : decode cX9_mix 143 = .ok (.invokestatic 148, 3) := by decide +kernel
theorem dX9_mix_146 : decode cX9_mix 146 = .ok (.iload 4, 2) := by decide +kernel
theorem dX9_mix_148 : decode cX9_mix 148 = .ok (.bipush 19, 2) := by decide +kernel
theorem dX9_mix_150 : decode cX9_mix 150 = .ok (.invokestatic 148, 3) := by decide +kernel
theorem dX9_mix_153 : decode cX9_mix 153 = .ok (.ixor, 1) := by decide +kernel
theorem dX9_mix_154 : decode cX9_mix 154 = .ok (.iload 4, 2) := by decide +kernel
theorem dX9_mix_156 : decode cX9_mix 156 = .ok (.bipush 10, 2) := by decide +kernel
theorem dX9_mix_158 : decode cX9_mix 158 = .ok (.iushr, 1) := by decide +kernel
theorem dX9_mix_159 : decode cX9_mix 159 = .ok (.ixor, 1) := by decide +kernel
theorem dX9_mix_160 : decode cX9_mix 160 = .ok (.iadd, 1) := by decide +kernel
theorem dX9_mix_161 : decode cX9_mix 161 = .ok (.iastore, 1) := by decide +kernel
theorem dX9_mix_162 : decode cX9_mix 162 = .ok (.iinc 2 1, 3) := by decide +kernel
theorem dX9_mix_165 : decode cX9_mix 165 = .ok (.goto (-94), 3) := by decide +kernel
theorem dX9_mix_168 : decode cX9_mix 168 = .ok (.aload_n 0, 1) := by decide +kernel
theorem dX9_mix_169 : decode cX9_mix 169 = .ok (.getfield 125, 3) := by decide +kernel
theorem dX9_mix_172 : decode cX9_mix 172 = .ok (.iconst 0, 1) := by decide +kernel
theorem dX9_mix_173 : decode cX9_mix 173 = .ok (.iaload, 1) := by decide +kernel
theorem dX9_mix_174 : decode cX9_mix 174 = .ok (.istore_n 2, 1) := by decide +kernel
theorem dX9_mix_175 : decode cX9_mix 175 = .ok (.aload_n 0, 1) := by decide +kernel
theorem dX9_mix_176 : decode cX9_mix 176 = .ok (.getfield 125, 3) := by decide +kernel
theorem dX9_mix_179 : decode cX9_mix 179 = .ok (.iconst 1, 1) := by decide +kernel
theorem dX9_mix_180 : decode cX9_mix 180 = .ok (.iaload, 1) := by decide +kernel
theorem dX9_mix_181 : decode cX9_mix 181 = .ok (.istore_n 3, 1) := by decide +kernel
theorem dX9_mix_182 : decode cX9_mix 182 = .ok (.aload_n 0, 1) := by decide +kernel
theorem dX9_mix_183 : decode cX9_mix 183 = .ok (.getfield 125, 3) := by decide +kernel
theorem dX9_mix_186 : decode cX9_mix 186 = .ok (.iconst 2, 1) := by decide +kernel
theorem dX9_mix_187 : decode cX9_mix 187 = .ok (.iaload, 1) := by decide +kernel
theorem dX9_mix_188 : decode cX9_mix 188 = .ok (.istore 4, 2) := by decide +kernel
theorem dX9_mix_190 : decode cX9_mix 190 = .ok (.aload_n 0, 1) := by decide +kernel
theorem dX9_mix_191 : decode cX9_mix 191 = .ok (.getfield 125, 3) := by decide +kernel
theorem dX9_mix_194 : decode cX9_mix 194 = .ok (.iconst 3, 1) := by decide +kernel
theorem dX9_mix_195 : decode cX9_mix 195 = .ok (.iaload, 1) := by decide +kernel
theorem dX9_mix_196 : decode cX9_mix 196 = .ok (.istore 5, 2) := by decide +kernel
theorem dX9_mix_198 : decode cX9_mix 198 = .ok (.aload_n 0, 1) := by decide +kernel
theorem dX9_mix_199 : decode cX9_mix 199 = .ok (.getfield 125, 3) := by decide +kernel
theorem dX9_mix_202 : decode cX9_mix 202 = .ok (.iconst 4, 1) := by decide +kernel
theorem dX9_mix_203 : decode cX9_mix 203 = .ok (.iaload, 1) := by decide +kernel
theorem dX9_mix_204 : decode cX9_mix 204 = .ok (.istore 6, 2) := by decide +kernel
theorem dX9_mix_206 : decode cX9_mix 206 = .ok (.aload_n 0, 1) := by decide +kernel
theorem dX9_mix_207 : decode cX9_mix 207 = .ok (.getfield 125, 3) := by decide +kernel
theorem dX9_mix_210 : decode cX9_mix 210 = .ok (.iconst 5, 1) := by decide +kernel
theorem dX9_mix_211 : decode cX9_mix 211 = .ok (.iaload, 1) := by decide +kernel
theorem dX9_mix_212 : decode cX9_mix 212 = .ok (.istore 7, 2) := by decide +kernel
theorem dX9_mix_214 : decode cX9_mix 214 = .ok (.aload_n 0, 1) := by decide +kernel
theorem dX9_mix_215 : decode cX9_mix 215 = .ok (.getfield 125, 3) := by decide +kernel
theorem dX9_mix_218 : decode cX9_mix 218 = .ok (.bipush 6, 2) := by decide +kernel
theorem dX9_mix_220 : decode cX9_mix 220 = .ok (.iaload, 1) := by decide +kernel
theorem dX9_mix_221 : decode cX9_mix 221 = .ok (.istore 8, 2) := by decide +kernel
theorem dX9_mix_223 : decode cX9_mix 223 = .ok (.aload_n 0, 1) := by decide +kernel
theorem dX9_mix_224 : decode cX9_mix 224 = .ok (.getfield 125, 3) := by decide +kernel
theorem dX9_mix_227 : decode cX9_mix 227 = .ok (.bipush 7, 2) := by decide +kernel
theorem dX9_mix_229 : decode cX9_mix 229 = .ok (.iaload, 1) := by decide +kernel
theorem dX9_mix_230 : decode cX9_mix 230 = .ok (.istore 9, 2) := by decide +kernel
theorem dX9_mix_232 : decode cX9_mix 232 = .ok (.iconst 0, 1) := by decide +kernel
theorem dX9_mix_233 : decode cX9_mix 233 = .ok (.istore 10, 2) := by decide +kernel
theorem dX9_mix_235 : decode cX9_mix 235 = .ok (.iload 10, 2) := by decide +kernel
theorem dX9_mix_237 : decode cX9_mix 237 = .ok (.bipush 64, 2) := by decide +kernel
theorem dX9_mix_239 : decode cX9_mix 239 = .ok (.if_icmp .ge 136, 3) := by decide +kernel
theorem dX9_mix_242 : decode cX9_mix 242 = .ok (.iload 9, 2) := by decide +kernel
theorem dX9_mix_244 : decode cX9_mix 244 = .ok (.iload 6, 2) := by decide +kernel
theorem dX9_mix_246 : decode cX9_mix 246 = .ok (.bipush 6, 2) := by decide +kernel
theorem dX9_mix_248 : decode cX9_mix 248 = .ok (.invokestatic 148, 3) := by decide +kernel
theorem dX9_mix_251 : decode cX9_mix 251 = .ok (.iload 6, 2) := by decide +kernel
theorem dX9_mix_253 : decode cX9_mix 253 = .ok (.bipush 11, 2) := by decide +kernel
theorem dX9_mix_255 : decode cX9_mix 255 = .ok (.invokestatic 148, 3) := by decide +kernel
theorem dX9_mix_258 : decode cX9_mix 258 = .ok (.ixor, 1) := by decide +kernel
theorem dX9_mix_259 : decode cX9_mix 259 = .ok (.iload 6, 2) := by decide +kernel
theorem dX9_mix_261 : decode cX9_mix 261 = .ok (.bipush 25, 2) := by decide +kernel
theorem dX9_mix_263 : decode cX9_mix 263 = .ok (.invokestatic 148, 3) := by decide +kernel
theorem dX9_mix_266 : decode cX9_mix 266 = .ok (.ixor, 1) := by decide +kernel
theorem dX9_mix_267 : decode cX9_mix 267 = .ok (.iadd, 1) := by decide +kernel
theorem dX9_mix_268 : decode cX9_mix 268 = .ok (.iload 6, 2) := by decide +kernel
theorem dX9_mix_270 : decode cX9_mix 270 = .ok (.iload 7, 2) := by decide +kernel
theorem dX9_mix_272 : decode cX9_mix 272 = .ok (.iand, 1) := by decide +kernel
theorem dX9_mix_273 : decode cX9_mix 273 = .ok (.iload 6, 2) := by decide +kernel
