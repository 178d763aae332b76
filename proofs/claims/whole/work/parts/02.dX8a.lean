set_option maxRecDepth 20000 in
theorem ggX8_init_X4_init : GoodIn wsX8_init wsX4_init := goodIn_r _ [41, 42, 2, 3, 12, 43, 44, 45, 46, 230, 231, 232, 233] (by decide +kernel) (by decide +kernel)
set_option maxRecDepth 20000 in
theorem gX8_init_X4_init_n9 : GoodIn wsX8_init (wsX4_init) := ggX8_init_X4_init
set_option maxRecDepth 20000 in
theorem ggX8_init_X2_init : GoodIn wsX8_init wsX2_init := goodIn_r _ [48, 49, 2, 3, 50, 5, 6, 51, 12, 52, 40, 41, 42, 43, 44, 45, 46, 230, 231, 232, 233, 248, 249] (by decide +kernel) (by decide +kernel)
set_option maxRecDepth 20000 in
theorem gX8_init_X2_init_n18 : GoodIn wsX8_init (wsX2_init) := ggX8_init_X2_init
set_option maxRecDepth 20000 in
theorem ggX8_init_Jx4a65c_init_da8c8 : GoodIn wsX8_init wsJx4a65c_init_da8c8 := goodIn_r _ [55, 56, 57, 58, 59, 60, 61, 62, 63, 64, 65, 66, 67, 2, 3, 250, 251, 252] (by decide +kernel) (by decide +kernel)
set_option maxRecDepth 20000 in
theorem gX8_init_Jx4a65c_init_da8c8 : GoodIn wsX8_init (wsJx4a65c_init_da8c8) := ggX8_init_Jx4a65c_init_da8c8
set_option maxRecDepth 20000 in
theorem ggX8_init_X1_init : GoodIn wsX8_init wsX1_init := goodIn_r _ [69, 70, 2, 3, 71, 15, 16, 72, 12, 73, 74, 75, 76, 77, 78, 54, 55, 56, 57, 58, 59, 60, 61, 62, 63, 64, 65, 66, 67, 79, 80, 81, 82, 83, 250, 251, 252, 253, 254, 255, 260, 261] (by decide +kernel) (by decide +kernel)
set_option maxRecDepth 20000 in
theorem gX8_init_X1_init_n58 : GoodIn wsX8_init (wsX1_init) := ggX8_init_X1_init
set_option maxRecDepth 20000 in
theorem ggX8_init_X7_init : GoodIn wsX8_init wsX7_init := goodIn_r _ [86, 87, 2, 3, 88, 89, 90, 75, 76, 91, 92, 93, 94, 95, 37, 38, 79, 80, 81, 12, 82, 83, 96, 97, 98, 99, 100, 101, 102, 103, 104, 256, 257, 258, 260, 261, 262, 259] (by decide +kernel) (by decide +kernel)
set_option maxRecDepth 20000 in
theorem gX8_init_X7_init : GoodIn wsX8_init (wsX7_init) := ggX8_init_X7_init
set_option maxRecDepth 20000 in
theorem ggX8_init_X6_build : GoodIn wsX8_init wsX6_build := goodIn_r _ [108, 109, 110, 111, 94, 112, 113, 114, 99, 115, 116, 117, 6, 118, 119, 43, 120, 121, 122, 123, 45, 46, 124, 125, 126, 127, 44, 128, 129, 130, 131, 132, 133, 134, 135, 136, 137, 138, 139, 140, 141, 142, 143, 144, 145, 146, 147, 148, 149, 150, 260, 261, 262, 230, 231, 232, 233] (by decide +kernel) (by decide +kernel)
set_option maxRecDepth 20000 in
theorem gX8_init_X6_build : GoodIn wsX8_init (wsV RX8 84 RX6 yX6_build wsX6_build) := goodIn_app (goodIn_of _ (by decide +kernel)) ggX8_init_X6_build
set_option maxRecDepth 20000 in
theorem ggX8_init_X5_init : GoodIn wsX8_init wsX5_init := goodIn_r _ [102, 103, 2, 3, 12, 104, 259] (by decide +kernel) (by decide +kernel)
set_option maxRecDepth 20000 in
theorem gX8_init_X5_init : GoodIn wsX8_init (wsX5_init) := ggX8_init_X5_init
set_option maxRecDepth 20000 in
theorem ggX8_init_X8_sign : GoodIn wsX8_init wsX8_sign := goodIn_r _ [156, 157, 11, 158, 159, 160, 94, 161, 99, 162, 121, 122, 123, 163, 164, 165, 10, 166, 51, 52, 167, 168, 169, 170, 171, 116, 117, 6, 118, 119, 43, 120, 45, 46, 172, 125, 126, 127, 44, 128, 129, 130, 131, 132, 133, 134, 135, 136, 173, 138, 139, 140, 141, 174, 143, 144, 145, 146, 259, 234, 235, 236, 237, 238, 239, 240, 241, 242, 243, 244, 245, 246, 247, 262, 248, 249, 230, 231, 232, 233] (by decide +kernel) (by decide +kernel)
set_option maxRecDepth 20000 in
theorem gX8_init_X8_sign : GoodIn wsX8_init (wsV RX8 93 RX8 yX8_sign wsX8_sign) := goodIn_app (goodIn_of _ (by decide +kernel)) ggX8_init_X8_sign
set_option maxRecDepth 20000 in
theorem ggX8_init_X5_become : GoodIn wsX8_init wsX5_become := goodIn_r _ [178, 104, 179, 121, 122, 123, 259] (by decide +kernel) (by decide +kernel)
set_option maxRecDepth 20000 in
theorem gX8_init_X5_become : GoodIn wsX8_init (wsV RX8 100 RX5 yX5_become wsX5_become) := goodIn_app (goodIn_of _ (by decide +kernel)) ggX8_init_X5_become
set_option maxRecDepth 20000 in
theorem ggX8_init_Jx4a65c_add_9ea2d : GoodIn wsX8_init wsJx4a65c_add_9ea2d := goodIn_r _ [183, 184, 185, 57, 186, 187, 188, 189, 16, 190, 191, 192, 193, 194, 195, 196, 197, 198, 56, 199, 200, 201, 202, 203, 204, 205, 206, 207, 208, 209, 210, 211, 212, 213, 214, 215, 216, 217, 218, 219, 220, 221, 222, 223, 224, 225, 226, 227, 228, 229, 121, 122, 123, 250, 251, 252] (by decide +kernel) (by decide +kernel)
set_option maxRecDepth 20000 in
theorem gX8_init_Jx4a65c_add_9ea2d : GoodIn wsX8_init (wsV RX8 104 RJx4a65c yJx4a65c_add_9ea2d wsJx4a65c_add_9ea2d) := goodIn_app (goodIn_of _ (by decide +kernel)) ggX8_init_Jx4a65c_add_9ea2d
theorem dX8_init_0 : decode cX8_init 0 = .ok (.aload_n 0, 1) := by decide +kernel
theorem dX8_init_1 : decode cX8_init 1 = .ok (.invokespecial 1, 3) := by decide +kernel
theorem dX8_init_4 : decode cX8_init 4 = .ok (.aload_n 0, 1) := by decide +kernel
theorem dX8_init_5 : decode cX8_init 5 = .ok (.new 7, 3) := by decide +kernel
theorem dX8_init_8 : decode cX8_init 8 = .ok (.dup, 1) := by decide +kernel
theorem dX8_init_9 : decode cX8_init 9 = .ok (.invokespecial 9, 3) := by decide +kernel
theorem dX8_init_12 : decode cX8_init 12 = .ok (.putfield 10, 3) := by decide +kernel
theorem dX8_init_15 : decode cX8_init 15 = .ok (.aload_n 0, 1) := by decide +kernel
theorem dX8_init_16 : decode cX8_init 16 = .ok (.new 16, 3) := by decide +kernel
theorem dX8_init_19 : decode cX8_init 19 = .ok (.dup, 1) := by decide +kernel
theorem dX8_init_20 : decode cX8_init 20 = .ok (.invokespecial 18, 3) := by decide +kernel
theorem dX8_init_23 : decode cX8_init 23 = .ok (.putfield 19, 3) := by decide +kernel
theorem dX8_init_26 : decode cX8_init 26 = .ok (.aload_n 0, 1) := by decide +kernel
theorem dX8_init_27 : decode cX8_init 27 = .ok (.bipush 32, 2) := by decide +kernel
theorem dX8_init_29 : decode cX8_init 29 = .ok (.newarray .int, 2) := by decide +kernel
theorem dX8_init_31 : decode cX8_init 31 = .ok (.putfield 23, 3) := by decide +kernel
theorem dX8_init_34 : decode cX8_init 34 = .ok (.aload_n 0, 1) := by decide +kernel
theorem dX8_init_35 : decode cX8_init 35 = .ok (.new 27, 3) := by decide +kernel
theorem dX8_init_38 : decode cX8_init 38 = .ok (.dup, 1) := by decide +kernel
theorem dX8_init_39 : decode cX8_init 39 = .ok (.invokespecial 29, 3) := by decide +kernel
theorem dX8_init_42 : decode cX8_init 42 = .ok (.putfield 30, 3) := by decide +kernel
theorem dX8_init_45 : decode cX8_init 45 = .ok (.aload_n 0, 1) := by decide +kernel
theorem dX8_init_46 : decode cX8_init 46 = .ok (.iconst 4, 1) := by decide +kernel
theorem dX8_init_47 : decode cX8_init 47 = .ok (.anewarray 34, 3) := by decide +kernel
theorem dX8_init_50 : decode cX8_init 50 = .ok (.putfield 36, 3) := by decide +kernel
theorem dX8_init_53 : decode cX8_init 53 = .ok (.aload_n 0, 1) := by decide +kernel
theorem dX8_init_54 : decode cX8_init 54 = .ok (.iconst 4, 1) := by decide +kernel
theorem dX8_init_55 : decode cX8_init 55 = .ok (.newarray .int, 2) := by decide +kernel
theorem dX8_init_57 : decode cX8_init 57 = .ok (.putfield 40, 3) := by decide +kernel
theorem dX8_init_60 : decode cX8_init 60 = .ok (.aload_n 0, 1) := by decide +kernel
theorem dX8_init_61 : decode cX8_init 61 = .ok (.bipush 64, 2) := by decide +kernel
theorem dX8_init_63 : decode cX8_init 63 = .ok (.newarray .int, 2) := by decide +kernel
theorem dX8_init_65 : decode cX8_init 65 = .ok (.putfield 43, 3) := by decide +kernel
theorem dX8_init_68 : decode cX8_init 68 = .ok (.aload_n 0, 1) := by decide +kernel
theorem dX8_init_69 : decode cX8_init 69 = .ok (.iconst 0, 1) := by decide +kernel
theorem dX8_init_70 : decode cX8_init 70 = .ok (.putfield 46, 3) := by decide +kernel
theorem dX8_init_73 : decode cX8_init 73 = .ok (.aload_n 0, 1) := by decide +kernel
theorem dX8_init_74 : decode cX8_init 74 = .ok (.bipush 12, 2) := by decide +kernel
theorem dX8_init_76 : decode cX8_init 76 = .ok (.newarray .int, 2) := by decide +kernel
theorem dX8_init_78 : decode cX8_init 78 = .ok (.putfield 50, 3) := by decide +kernel
theorem dX8_init_81 : decode cX8_init 81 = .ok (.aload_n 0, 1) := by decide +kernel
theorem dX8_init_82 : decode cX8_init 82 = .ok (.iconst 0, 1) := by decide +kernel
theorem dX8_init_83 : decode cX8_init 83 = .ok (.putfield 53, 3) := by decide +kernel
theorem dX8_init_86 : decode cX8_init 86 = .ok (.aload_n 0, 1) := by decide +kernel
theorem dX8_init_87 : decode cX8_init 87 = .ok (.new 56, 3) := by decide +kernel
theorem dX8_init_90 : decode cX8_init 90 = .ok (.dup, 1) := by decide +kernel
theorem dX8_init_91 : decode cX8_init 91 = .ok (.invokespecial 58, 3) := by decide +kernel
theorem dX8_init_94 : decode cX8_init 94 = .ok (.putfield 59, 3) := by decide +kernel
theorem dX8_init_97 : decode cX8_init 97 = .ok (.aload_n 0, 1) := by decide +kernel
theorem dX8_init_98 : decode cX8_init 98 = .ok (.iconst 0, 1) := by decide +kernel
theorem dX8_init_99 : decode cX8_init 99 = .ok (.putfield 63, 3) := by decide +kernel
theorem dX8_init_102 : decode cX8_init 102 = .ok (.aload_n 0, 1) := by decide +kernel
theorem dX8_init_103 : decode cX8_init 103 = .ok (.iconst 0, 1) := by decide +kernel
theorem dX8_init_104 : decode cX8_init 104 = .ok (.putfield 67, 3) := by decide +kernel
theorem dX8_init_107 : decode cX8_init 107 = .ok (.aload_n 0, 1) := by decide +kernel
theorem dX8_init_108 : decode cX8_init 108 = .ok (.iconst 0, 1) := by decide +kernel
theorem dX8_init_109 : decode cX8_init 109 = .ok (.putfield 70, 3) := by decide +kernel
theorem dX8_init_112 : decode cX8_init 112 = .ok (.new 73, 3) := by decide +kernel
theorem dX8_init_115 : decode cX8_init 115 = .ok (.dup, 1) := by decide +kernel
theorem dX8_init_116 : decode cX8_init 116 = .ok (.invokespecial 75, 3) := by decide +kernel
theorem dX8_init_119 : decode cX8_init 119 = .ok (.astore_n 1, 1) := by decide +kernel
theorem dX8_init_120 : decode cX8_init 120 = .ok (.aload_n 1, 1) := by decide +kernel
theorem dX8_init_121 : decode cX8_init 121 = .ok (.getfield 76, 3) := by decide +kernel
theorem dX8_init_124 : decode cX8_init 124 = .ok (.aload_n 1, 1) := by decide +kernel
theorem dX8_init_125 : decode cX8_init 125 = .ok (.getfield 80, 3) := by decide +kernel
theorem dX8_init_128 : decode cX8_init 128 = .ok (.aload_n 0, 1) := by decide +kernel
theorem dX8_init_129 : decode cX8_init 129 = .ok (.getfield 10, 3) := by decide +kernel
theorem dX8_init_132 : decode cX8_init 132 = .ok (.invokevirtual 84, 3) := by decide +kernel
theorem dX8_init_135 : decode cX8_init 135 = .ok (.iconst 0, 1) := by decide +kernel
theorem dX8_init_136 : decode cX8_init 136 = .ok (.istore_n 2, 1) := by decide +kernel
theorem dX8_init_137 : decode cX8_init 137 = .ok (.iload_n 2, 1) := by decide +kernel
theorem dX8_init_138 : decode cX8_init 138 = .ok (.iconst 4, 1) := by decide +kernel
theorem dX8_init_139 : decode cX8_init 139 = .ok (.if_icmp .ge 52, 3) := by decide +kernel
theorem dX8_init_142 : decode cX8_init 142 = .ok (.aload_n 0, 1) := by decide +kernel
theorem dX8_init_143 : decode cX8_init 143 = .ok (.getfield 36, 3) := by decide +kernel
theorem dX8_init_146 : decode cX8_init 146 = .ok (.iload_n 2, 1) := by decide +kernel
theorem dX8_init_147 : decode cX8_init 147 = .ok (.new 34, 3) := by decide +kernel
theorem dX8_init_150 : decode cX8_init 150 = .ok (.dup, 1) := by decide +kernel
theorem dX8_init_151 : decode cX8_init 151 = .ok (.iload_n 2, 1) := by decide +kernel
theorem dX8_init_152 : decode cX8_init 152 = .ok (.invokespecial 90, 3) := by decide +kernel
theorem dX8_init_155 : decode cX8_init 155 = .ok (.aastore, 1) := by decide +kernel
theorem dX8_init_156 : decode cX8_init 156 = .ok (.aload_n 0, 1) := by decide +kernel
theorem dX8_init_157 : decode cX8_init 157 = .ok (.aload_n 0, 1) := by decide +kernel
theorem dX8_init_158 : decode cX8_init 158 = .ok (.getfield 36, 3) := by decide +kernel
theorem dX8_init_161 : decode cX8_init 161 = .ok (.iload_n 2, 1) := by decide +kernel
theorem dX8_init_162 : decode cX8_init 162 = .ok (.aaload, 1) := by decide +kernel
theorem dX8_init_163 : decode cX8_init 163 = .ok (.aload_n 1, 1) := by decide +kernel
theorem dX8_init_164 : decode cX8_init 164 = .ok (.getfield 76, 3) := by decide +kernel
theorem dX8_init_167 : decode cX8_init 167 = .ok (.invokevirtual 93, 3) := by decide +kernel
theorem dX8_init_170 : decode cX8_init 170 = .ok (.aload_n 1, 1) := by decide +kernel
theorem dX8_init_171 : decode cX8_init 171 = .ok (.getfield 97, 3) := by decide +kernel
theorem dX8_init_174 : decode cX8_init 174 = .ok (.iload_n 2, 1) := by decide +kernel
theorem dX8_init_175 : decode cX8_init 175 = .ok (.aaload, 1) := by decide +kernel
theorem dX8_init_176 : decode cX8_init 176 = .ok (.aload_n 0, 1) := by decide +kernel
theorem dX8_init_177 : decode cX8_init 177 = .ok (.getfield 36, 3) := by decide +kernel
theorem dX8_init_180 : decode cX8_init 180 = .ok (.iload_n 2, 1) := by decide +kernel
theorem dX8_init_181 : decode cX8_init 181 = .ok (.aaload, 1) := by decide +kernel
theorem dX8_init_182 : decode cX8_init 182 = .ok (.invokevirtual 100, 3) := by decide +kernel
theorem dX8_init_185 : decode cX8_init 185 = .ok (.iinc 2 1, 3) := by decide +kernel
theorem dX8_init_188 : decode cX8_init 188 = .ok (.goto (-51), 3) := by decide +kernel
theorem dX8_init_191 : decode cX8_init 191 = .ok (.aload_n 0, 1) := by decide +kernel
theorem dX8_init_192 : decode cX8_init 192 = .ok (.getfield 30, 3) := by decide +kernel
theorem dX8_init_195 : decode cX8_init 195 = .ok (.aload_n 1, 1) := by decide +kernel
theorem dX8_init_196 : decode cX8_init 196 = .ok (.invokevirtual 104, 3) := by decide +kernel
theorem dX8_init_199 : decode cX8_init 199 = .ok (.pop, 1) := by decide +kernel
theorem dX8_init_200 : decode cX8_init 200 = .ok (.return_, 1) := by decide +kernel
theorem dX8_feed_0 : decode cX8_feed 0 = .ok (.iload_n 1, 1) := by decide +kernel
theorem dX8_feed_1 : decode cX8_feed 1 = .ok (.ifCond .lt 19, 3) := by decide +kernel
theorem dX8_feed_4 : decode cX8_feed 4 = .ok (.iload_n 1, 1) := by decide +kernel
theorem dX8_feed_5 : decode cX8_feed 5 = .ok (.sipush 255, 3) := by decide +kernel
theorem dX8_feed_8 : decode cX8_feed 8 = .ok (.if_icmp .gt 12, 3) := by decide +kernel
theorem dX8_feed_11 : decode cX8_feed 11 = .ok (.aload_n 0, 1) := by decide +kernel
theorem dX8_feed_12 : decode cX8_feed 12 = .ok (.getfield 46, 3) := by decide +kernel
theorem dX8_feed_15 : decode cX8_feed 15 = .ok (.bipush 64, 2) := by decide +kernel
theorem dX8_feed_17 : decode cX8_feed 17 = .ok (.if_icmp .lt 5, 3) := by decide +kernel
theorem dX8_feed_20 : decode cX8_feed 20 = .ok (.iconst 0, 1) := by decide +kernel
theorem dX8_feed_21 : decode cX8_feed 21 = .ok (.ireturn, 1) := by decide +kernel
theorem dX8_feed_22 : decode cX8_feed 22 = .ok (.aload_n 0, 1) := by decide +kernel
theorem dX8_feed_23 : decode cX8_feed 23 = .ok (.getfield 43, 3) := by decide +kernel
theorem dX8_feed_26 : decode cX8_feed 26 = .ok (.aload_n 0, 1) := by decide +kernel
theorem dX8_feed_27 : decode cX8_feed 27 = .ok (.getfield 46, 3) := by decide +kernel
theorem dX8_feed_30 : decode cX8_feed 30 = .ok (.iload_n 1, 1) := by decide +kernel
theorem dX8_feed_31 : decode cX8_feed 31 = .ok (.iastore, 1) := by decide +kernel
theorem dX8_feed_32 : decode cX8_feed 32 = .ok (.aload_n 0, 1) := by decide +kernel
theorem dX8_feed_33 : decode cX8_feed 33 = .ok (.dup, 1) := by decide +kernel
theorem dX8_feed_34 : decode cX8_feed 34 = .ok (.getfield 46, 3) := by decide +kernel
theorem dX8_feed_37 : decode cX8_feed 37 = .ok (.iconst 1, 1) := by decide +kernel
theorem dX8_feed_38 : decode cX8_feed 38 = .ok (.iadd, 1) := by decide +kernel
theorem dX8_feed_39 : decode cX8_feed 39 = .ok (.putfield 46, 3) := by decide +kernel
theorem dX8_feed_42 : decode cX8_feed 42 = .ok (.iconst 1, 1) := by decide +kernel
theorem dX8_feed_43 : decode cX8_feed 43 = .ok (.ireturn, 1) := by decide +kernel
set_option maxRecDepth 20000 in
theorem ggX8_write_X8_isClient : GoodIn wsX8_write wsX8_isClient := goodIn_r _ [11] (by decide +kernel) (by decide +kernel)
set_option maxRecDepth 20000 in
theorem gX8_write_X8_isClient : GoodIn wsX8_write (va_wsS RX8 108 yX8_isClient wsX8_isClient) := goodIn_app (goodIn_of _ (by decide +kernel)) ggX8_write_X8_isClient
set_option maxRecDepth 20000 in
theorem ggX8_write_X8_isFile : GoodIn wsX8_write wsX8_isFile := goodIn_r _ [14] (by decide +kernel) (by decide +kernel)
set_option maxRecDepth 20000 in
theorem gX8_write_X8_isFile : GoodIn wsX8_write (va_wsS RX8 112 yX8_isFile wsX8_isFile) := goodIn_app (goodIn_of _ (by decide +kernel)) ggX8_write_X8_isFile
set_option maxRecDepth 20000 in
theorem ggX8_write_Jx4a65c_get_915e3 : GoodIn wsX8_write wsJx4a65c_get_915e3 := goodIn_r _ [19, 20, 21, 22, 23, 24, 25, 26, 27, 28, 29, 30, 31, 18, 32, 33, 290, 291, 292] (by decide +kernel) (by decide +kernel)
set_option maxRecDepth 20000 in
theorem gX8_write_Jx4a65c_get_915e3 : GoodIn wsX8_write (wsV RX8 115 RJx4a65c yJx4a65c_get_915e3 wsJx4a65c_get_915e3) := goodIn_app (goodIn_of _ (by decide +kernel)) ggX8_write_Jx4a65c_get_915e3
set_option maxRecDepth 20000 in
theorem ggX8_write_X8_failedCheck : GoodIn wsX8_write wsX8_failedCheck := goodIn_r _ [37, 38, 39, 40, 41, 42, 43, 44, 10, 45, 46, 47, 48, 49, 50, 51, 52, 53, 54, 55, 56, 57, 58, 59, 60, 61, 62, 63, 64, 65, 66, 67, 68, 69, 70, 71, 72, 73, 74, 75, 76, 77, 78, 79, 80, 81, 82, 83, 84, 85, 86, 87, 88, 89, 90, 91, 92, 93, 94, 95, 96, 97, 98, 99, 100, 101, 102, 103, 104, 105, 106, 107, 108, 109, 110, 111, 112, 113, 114, 115, 116, 117, 118, 119, 120, 121, 122, 123, 124, 125, 126, 127, 128, 129, 293, 294, 295, 296, 276, 277, 278, 279, 280, 281, 282, 283, 284, 285, 286, 287, 288, 289, 297, 298, 299, 300, 301, 302, 303] (by decide +kernel) (by decide +kernel)
set_option maxRecDepth 20000 in
theorem gX8_write_X8_failedCheck : GoodIn wsX8_write (wsV RX8 119 RX8 yX8_failedCheck wsX8_failedCheck) := goodIn_app (goodIn_of _ (by decide +kernel)) ggX8_write_X8_failedCheck
set_option maxRecDepth 20000 in
theorem ggX8_write_X8_stoppedBy : GoodIn wsX8_write wsX8_stoppedBy := goodIn_r _ [133, 134, 276, 277, 278, 279, 280, 281, 282, 283, 284, 285, 286, 287, 288, 289] (by decide +kernel) (by decide +kernel)
set_option maxRecDepth 20000 in
theorem gX8_write_X8_stoppedBy : GoodIn wsX8_write (wsV RX8 123 RX8 yX8_stoppedBy wsX8_stoppedBy) := goodIn_app (goodIn_of _ (by decide +kernel)) ggX8_write_X8_stoppedBy
set_option maxRecDepth 20000 in
theorem ggX8_write_X7_put : GoodIn wsX8_write wsX7_put := goodIn_r _ [138, 139, 140, 141, 142, 143, 144, 145, 146, 147, 67, 68, 69, 148, 149, 150, 151, 127, 152, 153, 154, 155, 156, 157, 158, 129, 159, 60, 61, 62, 63, 64, 65, 66, 70, 71, 160, 73, 74, 75, 76, 77, 78, 79, 80, 81, 82, 83, 84, 85, 161, 87, 88, 89, 90, 162, 92, 93, 94, 95, 163, 164, 165, 166, 293, 294, 295, 304, 305, 303, 299, 300, 301, 302] (by decide +kernel) (by decide +kernel)
set_option maxRecDepth 20000 in
theorem gX8_write_X7_put : GoodIn wsX8_write (wsV RX8 127 RX7 yX7_put wsX7_put) := goodIn_app (goodIn_of _ (by decide +kernel)) ggX8_write_X7_put
set_option maxRecDepth 20000 in
theorem ggX8_write_X1_note : GoodIn wsX8_write wsX1_note := goodIn_r _ [171, 172, 173, 174, 175, 176, 177, 178, 179, 18, 180, 20, 181, 182, 183, 184, 185, 186, 187, 188, 189, 190, 191, 192, 193, 194, 195, 196, 67, 68, 69, 197, 198, 199, 200, 201, 202, 203, 204, 205, 206, 207, 208, 209, 210, 211, 212, 213, 33, 214, 215, 216, 217, 218, 219, 220, 221, 222, 223, 224, 225, 226, 227, 228, 229, 230, 231, 232, 233, 234, 235, 236, 237, 238, 239, 240, 241, 242, 243, 244, 245, 246, 247, 248, 249, 250, 251, 306, 307, 308, 309, 310, 311, 312, 313, 290, 291, 292] (by decide +kernel) (by decide +kernel)
set_option maxRecDepth 20000 in
theorem gX8_write_X1_note : GoodIn wsX8_write (wsV RX8 131 RX1 yX1_note wsX1_note) := goodIn_app (goodIn_of _ (by decide +kernel)) ggX8_write_X1_note
set_option maxRecDepth 20000 in
theorem ggX8_write_X8_makeStatement : GoodIn wsX8_write wsX8_makeStatement := goodIn_r _ [255, 40, 41, 38, 256, 119, 120, 121, 102, 122, 104, 123, 111, 112, 108, 113, 114, 115, 116, 117, 118, 257, 258, 259, 260, 261, 262, 263, 264, 10, 265, 39, 46, 266, 267, 268, 127, 269, 129, 270, 67, 68, 69, 48, 49, 50, 51, 52, 53, 54, 55, 56, 57, 58, 59, 60, 61, 62, 63, 64, 65, 66, 70, 71, 72, 73, 74, 75, 76, 77, 78, 79, 80, 81, 82, 83, 84, 85, 86, 87, 88, 89, 90, 91, 92, 93, 94, 95, 271, 272, 273, 274, 275, 276, 277, 278, 279, 280, 281, 282, 283, 284, 285, 286, 287, 288, 289, 293, 294, 295, 296, 303, 297, 298, 299, 300, 301, 302] (by decide +kernel) (by decide +kernel)
set_option maxRecDepth 20000 in
theorem gX8_write_X8_makeStatement : GoodIn wsX8_write (wsV RX8 135 RX8 yX8_makeStatement wsX8_makeStatement) := goodIn_app (goodIn_of _ (by decide +kernel)) ggX8_write_X8_makeStatement
theorem dX8_write_0 : decode cX8_write 0 = .ok (.iload_n 1, 1) := by decide +kernel
theorem dX8_write_1 : decode cX8_write 1 = .ok (.invokestatic 108, 3) := by decide +kernel
theorem dX8_write_4 : decode cX8_write 4 = .ok (.ifCond .eq 19, 3) := by decide +kernel
theorem dX8_write_7 : decode cX8_write 7 = .ok (.iload_n 2, 1) := by decide +kernel
theorem dX8_write_8 : decode cX8_write 8 = .ok (.invokestatic 112, 3) := by decide +kernel
theorem dX8_write_11 : decode cX8_write 11 = .ok (.ifCond .eq 12, 3) := by decide +kernel
theorem dX8_write_14 : decode cX8_write 14 = .ok (.aload_n 0, 1) := by decide +kernel
theorem dX8_write_15 : decode cX8_write 15 = .ok (.getfield 46, 3) := by decide +kernel
theorem dX8_write_18 : decode cX8_write 18 = .ok (.bipush 12, 2) := by decide +kernel
theorem dX8_write_20 : decode cX8_write 20 = .ok (.if_icmp .le 6, 3) := by decide +kernel
theorem dX8_write_23 : decode cX8_write 23 = .ok (.bipush (-9), 2) := by decide +kernel
theorem dX8_write_25 : decode cX8_write 25 = .ok (.ireturn, 1) := by decide +kernel
theorem dX8_write_26 : decode cX8_write 26 = .ok (.aload_n 0, 1) := by decide +kernel
theorem dX8_write_27 : decode cX8_write 27 = .ok (.getfield 46, 3) := by decide +kernel
theorem dX8_write_30 : decode cX8_write 30 = .ok (.istore_n 3, 1) := by decide +kernel
theorem dX8_write_31 : decode cX8_write 31 = .ok (.aload_n 0, 1) := by decide +kernel
theorem dX8_write_32 : decode cX8_write 32 = .ok (.iconst 0, 1) := by decide +kernel
theorem dX8_write_33 : decode cX8_write 33 = .ok (.putfield 46, 3) := by decide +kernel
theorem dX8_write_36 : decode cX8_write 36 = .ok (.aload_n 0, 1) := by decide +kernel
theorem dX8_write_37 : decode cX8_write 37 = .ok (.getfield 30, 3) := by decide +kernel
theorem dX8_write_40 : decode cX8_write 40 = .ok (.aload_n 0, 1) := by decide +kernel
theorem dX8_write_41 : decode cX8_write 41 = .ok (.getfield 40, 3) := by decide +kernel
theorem dX8_write_44 : decode cX8_write 44 = .ok (.iload_n 1, 1) := by decide +kernel
theorem dX8_write_45 : decode cX8_write 45 = .ok (.iaload, 1) := by decide +kernel
theorem dX8_write_46 : decode cX8_write 46 = .ok (.invokevirtual 115, 3) := by decide +kernel
theorem dX8_write_49 : decode cX8_write 49 = .ok (.checkcast 73, 3) := by decide +kernel
theorem dX8_write_52 : decode cX8_write 52 = .ok (.astore 4, 2) := by decide +kernel
theorem dX8_write_54 : decode cX8_write 54 = .ok (.aload_n 0, 1) := by decide +kernel
theorem dX8_write_55 : decode cX8_write 55 = .ok (.iload_n 1, 1) := by decide +kernel
theorem dX8_write_56 : decode cX8_write 56 = .ok (.aload 4, 2) := by decide +kernel
theorem dX8_write_58 : decode cX8_write 58 = .ok (.invokevirtual 119, 3) := by decide +kernel
theorem dX8_write_61 : decode cX8_write 61 = .ok (.istore 5, 2) := by decide +kernel
theorem dX8_write_63 : decode cX8_write 63 = .ok (.iload 5, 2) := by decide +kernel
theorem dX8_write_65 : decode cX8_write 65 = .ok (.ifCond .eq 10, 3) := by decide +kernel
theorem dX8_write_68 : decode cX8_write 68 = .ok (.aload_n 0, 1) := by decide +kernel
theorem dX8_write_69 : decode cX8_write 69 = .ok (.iload 5, 2) := by decide +kernel
theorem dX8_write_71 : decode cX8_write 71 = .ok (.invokevirtual 123, 3) := by decide +kernel
theorem dX8_write_74 : decode cX8_write 74 = .ok (.ireturn, 1) := by decide +kernel
theorem dX8_write_75 : decode cX8_write 75 = .ok (.aload 4, 2) := by decide +kernel
theorem dX8_write_77 : decode cX8_write 77 = .ok (.iload_n 2, 1) := by decide +kernel
theorem dX8_write_78 : decode cX8_write 78 = .ok (.aload_n 0, 1) := by decide +kernel
theorem dX8_write_79 : decode cX8_write 79 = .ok (.getfield 43, 3) := by decide +kernel
theorem dX8_write_82 : decode cX8_write 82 = .ok (.iload_n 3, 1) := by decide +kernel
theorem dX8_write_83 : decode cX8_write 83 = .ok (.aload_n 0, 1) := by decide +kernel
theorem dX8_write_84 : decode cX8_write 84 = .ok (.getfield 10, 3) := by decide +kernel
theorem dX8_write_87 : decode cX8_write 87 = .ok (.invokevirtual 127, 3) := by decide +kernel
theorem dX8_write_90 : decode cX8_write 90 = .ok (.aload_n 0, 1) := by decide +kernel
theorem dX8_write_91 : decode cX8_write 91 = .ok (.getfield 59, 3) := by decide +kernel
theorem dX8_write_94 : decode cX8_write 94 = .ok (.iconst 1, 1) := by decide +kernel
theorem dX8_write_95 : decode cX8_write 95 = .ok (.iload_n 1, 1) := by decide +kernel
theorem dX8_write_96 : decode cX8_write 96 = .ok (.iload_n 2, 1) := by decide +kernel
theorem dX8_write_97 : decode cX8_write 97 = .ok (.aload_n 0, 1) := by decide +kernel
theorem dX8_write_98 : decode cX8_write 98 = .ok (.getfield 43, 3) := by decide +kernel
theorem dX8_write_101 : decode cX8_write 101 = .ok (.iload_n 3, 1) := by decide +kernel
theorem dX8_write_102 : decode cX8_write 102 = .ok (.invokevirtual 131, 3) := by decide +kernel
theorem dX8_write_105 : decode cX8_write 105 = .ok (.aload_n 0, 1) := by decide +kernel
theorem dX8_write_106 : decode cX8_write 106 = .ok (.iload_n 1, 1) := by decide +kernel
theorem dX8_write_107 : decode cX8_write 107 = .ok (.aload 4, 2) := by decide +kernel
theorem dX8_write_109 : decode cX8_write 109 = .ok (.invokevirtual 135, 3) := by decide +kernel
theorem dX8_write_112 : decode cX8_write 112 = .ok (.iconst 1, 1) := by decide +kernel
theorem dX8_write_113 : decode cX8_write 113 = .ok (.ireturn, 1) := by decide +kernel
set_option maxRecDepth 20000 in
theorem ggX8_read_X8_isClient : GoodIn wsX8_read wsX8_isClient := goodIn_r _ [17] (by decide +kernel) (by decide +kernel)
set_option maxRecDepth 20000 in
theorem gX8_read_X8_isClient : GoodIn wsX8_read (va_wsS RX8 108 yX8_isClient wsX8_isClient) := goodIn_app (goodIn_of _ (by decide +kernel)) ggX8_read_X8_isClient
set_option maxRecDepth 20000 in
theorem ggX8_read_X8_isFile : GoodIn wsX8_read wsX8_isFile := goodIn_r _ [20] (by decide +kernel) (by decide +kernel)
set_option maxRecDepth 20000 in
theorem gX8_read_X8_isFile : GoodIn wsX8_read (va_wsS RX8 112 yX8_isFile wsX8_isFile) := goodIn_app (goodIn_of _ (by decide +kernel)) ggX8_read_X8_isFile
set_option maxRecDepth 20000 in
theorem ggX8_read_Jx4a65c_get_915e3 : GoodIn wsX8_read wsJx4a65c_get_915e3 := goodIn_r _ [25, 26, 27, 28, 29, 30, 31, 32, 33, 34, 35, 36, 37, 24, 38, 39, 266, 267, 268] (by decide +kernel) (by decide +kernel)
set_option maxRecDepth 20000 in
theorem gX8_read_Jx4a65c_get_915e3 : GoodIn wsX8_read (wsV RX8 115 RJx4a65c yJx4a65c_get_915e3 wsJx4a65c_get_915e3) := goodIn_app (goodIn_of _ (by decide +kernel)) ggX8_read_Jx4a65c_get_915e3
set_option maxRecDepth 20000 in
theorem ggX8_read_X8_failedCheck : GoodIn wsX8_read wsX8_failedCheck := goodIn_r _ [43, 44, 45, 46, 47, 48, 49, 50, 16, 51, 52, 53, 54, 55, 56, 57, 58, 59, 60, 61, 62, 63, 64, 65, 66, 67, 68, 69, 70, 71, 72, 10, 11, 12, 73, 74, 75, 76, 77, 78, 79, 80, 81, 82, 83, 84, 85, 86, 87, 88, 89, 90, 91, 92, 93, 94, 95, 96, 97, 98, 99, 100, 101, 102, 103, 104, 105, 106, 107, 108, 109, 110, 111, 112, 113, 114, 115, 116, 117, 118, 119, 120, 121, 122, 123, 124, 125, 126, 127, 128, 129, 130, 131, 132, 261, 262, 263, 269, 247, 248, 249, 250, 251, 252, 253, 254, 255, 256, 257, 258, 259, 260, 270, 271, 272, 273, 274, 275, 276] (by decide +kernel) (by decide +kernel)
set_option maxRecDepth 20000 in
theorem gX8_read_X8_failedCheck : GoodIn wsX8_read (wsV RX8 119 RX8 yX8_failedCheck wsX8_failedCheck) := goodIn_app (goodIn_of _ (by decide +kernel)) ggX8_read_X8_failedCheck
set_option maxRecDepth 20000 in
theorem ggX8_read_X8_stoppedBy : GoodIn wsX8_read wsX8_stoppedBy := goodIn_r _ [136, 137, 247, 248, 249, 250, 251, 252, 253, 254, 255, 256, 257, 258, 259, 260] (by decide +kernel) (by decide +kernel)
set_option maxRecDepth 20000 in
theorem gX8_read_X8_stoppedBy : GoodIn wsX8_read (wsV RX8 123 RX8 yX8_stoppedBy wsX8_stoppedBy) := goodIn_app (goodIn_of _ (by decide +kernel)) ggX8_read_X8_stoppedBy
set_option maxRecDepth 20000 in
theorem ggX8_read_X1_note : GoodIn wsX8_read wsX1_note := goodIn_r _ [142, 143, 144, 145, 146, 147, 148, 149, 150, 24, 151, 26, 152, 153, 154, 155, 156, 157, 158, 159, 160, 161, 162, 163, 164, 165, 166, 167, 10, 11, 12, 168, 169, 170, 171, 172, 173, 174, 175, 176, 177, 178, 179, 180, 181, 182, 183, 184, 39, 185, 186, 187, 188, 189, 190, 191, 192, 193, 194, 195, 196, 197, 198, 199, 200, 201, 202, 203, 204, 205, 206, 207, 208, 209, 210, 211, 212, 213, 214, 215, 216, 217, 218, 219, 220, 221, 222, 277, 278, 279, 280, 281, 282, 283, 284, 266, 267, 268] (by decide +kernel) (by decide +kernel)
set_option maxRecDepth 20000 in
theorem gX8_read_X1_note : GoodIn wsX8_read (wsV RX8 131 RX1 yX1_note wsX1_note) := goodIn_app (goodIn_of _ (by decide +kernel)) ggX8_read_X1_note
set_option maxRecDepth 20000 in
theorem ggX8_read_X8_makeStatement : GoodIn wsX8_read wsX8_makeStatement := goodIn_r _ [226, 46, 47, 44, 227, 122, 123, 124, 105, 125, 107, 126, 114, 115, 111, 116, 117, 118, 119, 120, 121, 228, 229, 230, 231, 232, 233, 234, 235, 16, 236, 45, 52, 237, 238, 239, 130, 240, 132, 241, 10, 11, 12, 54, 55, 56, 57, 58, 59, 60, 61, 62, 63, 64, 65, 66, 67, 68, 69, 70, 71, 72, 73, 74, 75, 76, 77, 78, 79, 80, 81, 82, 83, 84, 85, 86, 87, 88, 89, 90, 91, 92, 93, 94, 95, 96, 97, 98, 242, 243, 244, 245, 246, 247, 248, 249, 250, 251, 252, 253, 254, 255, 256, 257, 258, 259, 260, 261, 262, 263, 269, 276, 270, 271, 272, 273, 274, 275] (by decide +kernel) (by decide +kernel)
set_option maxRecDepth 20000 in
theorem gX8_read_X8_makeStatement : GoodIn wsX8_read (wsV RX8 135 RX8 yX8_makeStatement wsX8_makeStatement) := goodIn_app (goodIn_of _ (by decide +kernel)) ggX8_read_X8_makeStatement
theorem dX8_read_0 : decode cX8_read 0 = .ok (.iload_n 1, 1) := by decide +kernel
theorem dX8_read_1 : decode cX8_read 1 = .ok (.invokestatic 108, 3) := by decide +kernel
theorem dX8_read_4 : decode cX8_read 4 = .ok (.ifCond .eq 10, 3) := by decide +kernel
theorem dX8_read_7 : decode cX8_read 7 = .ok (.iload_n 2, 1) := by decide +kernel
theorem dX8_read_8 : decode cX8_read 8 = .ok (.invokestatic 112, 3) := by decide +kernel
theorem dX8_read_11 : decode cX8_read 11 = .ok (.ifCond .ne 6, 3) := by decide +kernel
theorem dX8_read_14 : decode cX8_read 14 = .ok (.bipush (-9), 2) := by decide +kernel
theorem dX8_read_16 : decode cX8_read 16 = .ok (.ireturn, 1) := by decide +kernel
theorem dX8_read_17 : decode cX8_read 17 = .ok (.aload_n 0, 1) := by decide +kernel
theorem dX8_read_18 : decode cX8_read 18 = .ok (.getfield 30, 3) := by decide +kernel
theorem dX8_read_21 : decode cX8_read 21 = .ok (.aload_n 0, 1) := by decide +kernel
theorem dX8_read_22 : decode cX8_read 22 = .ok (.getfield 40, 3) := by decide +kernel
theorem dX8_read_25 : decode cX8_read 25 = .ok (.iload_n 1, 1) := by decide +kernel
theorem dX8_read_26 : decode cX8_read 26 = .ok (.iaload, 1) := by decide +kernel
theorem dX8_read_27 : decode cX8_read 27 = .ok (.invokevirtual 115, 3) := by decide +kernel
theorem dX8_read_30 : decode cX8_read 30 = .ok (.checkcast 73, 3) := by decide +kernel
theorem dX8_read_33 : decode cX8_read 33 = .ok (.astore_n 3, 1) := by decide +kernel
theorem dX8_read_34 : decode cX8_read 34 = .ok (.aload_n 0, 1) := by decide +kernel
theorem dX8_read_35 : decode cX8_read 35 = .ok (.iload_n 1, 1) := by decide +kernel
theorem dX8_read_36 : decode cX8_read 36 = .ok (.aload_n 3, 1) := by decide +kernel
theorem dX8_read_37 : decode cX8_read 37 = .ok (.invokevirtual 119, 3) := by decide +kernel
theorem dX8_read_40 : decode cX8_read 40 = .ok (.istore 4, 2) := by decide +kernel
theorem dX8_read_42 : decode cX8_read 42 = .ok (.iload 4, 2) := by decide +kernel
theorem dX8_read_44 : decode cX8_read 44 = .ok (.ifCond .eq 10, 3) := by decide +kernel
theorem dX8_read_47 : decode cX8_read 47 = .ok (.aload_n 0, 1) := by decide +kernel
theorem dX8_read_48 : decode cX8_read 48 = .ok (.iload 4, 2) := by decide +kernel
theorem dX8_read_50 : decode cX8_read 50 = .ok (.invokevirtual 123, 3) := by decide +kernel
theorem dX8_read_53 : decode cX8_read 53 = .ok (.ireturn, 1) := by decide +kernel
theorem dX8_read_54 : decode cX8_read 54 = .ok (.aload_n 0, 1) := by decide +kernel
theorem dX8_read_55 : decode cX8_read 55 = .ok (.aload_n 3, 1) := by decide +kernel
theorem dX8_read_56 : decode cX8_read 56 = .ok (.getfield 80, 3) := by decide +kernel
theorem dX8_read_59 : decode cX8_read 59 = .ok (.getfield 139, 3) := by decide +kernel
theorem dX8_read_62 : decode cX8_read 62 = .ok (.iload_n 2, 1) := by decide +kernel
theorem dX8_read_63 : decode cX8_read 63 = .ok (.iaload, 1) := by decide +kernel
theorem dX8_read_64 : decode cX8_read 64 = .ok (.putfield 53, 3) := by decide +kernel
theorem dX8_read_67 : decode cX8_read 67 = .ok (.aload_n 3, 1) := by decide +kernel
theorem dX8_read_68 : decode cX8_read 68 = .ok (.getfield 80, 3) := by decide +kernel
theorem dX8_read_71 : decode cX8_read 71 = .ok (.getfield 144, 3) := by decide +kernel
theorem dX8_read_74 : decode cX8_read 74 = .ok (.iload_n 2, 1) := by decide +kernel
theorem dX8_read_75 : decode cX8_read 75 = .ok (.bipush 12, 2) := by decide +kernel
theorem dX8_read_77 : decode cX8_read 77 = .ok (.imul, 1) := by decide +kernel
theorem dX8_read_78 : decode cX8_read 78 = .ok (.aload_n 0, 1) := by decide +kernel
theorem dX8_read_79 : decode cX8_read 79 = .ok (.getfield 50, 3) := by decide +kernel
theorem dX8_read_82 : decode cX8_read 82 = .ok (.iconst 0, 1) := by decide +kernel
theorem dX8_read_83 : decode cX8_read 83 = .ok (.aload_n 0, 1) := by decide +kernel
theorem dX8_read_84 : decode cX8_read 84 = .ok (.getfield 53, 3) := by decide +kernel
theorem dX8_read_87 : decode cX8_read 87 = .ok (.invokestatic 147, 3) := by decide +kernel
theorem dX8_read_90 : decode cX8_read 90 = .ok (.aload_n 0, 1) := by decide +kernel
theorem dX8_read_91 : decode cX8_read 91 = .ok (.getfield 59, 3) := by decide +kernel
theorem dX8_read_94 : decode cX8_read 94 = .ok (.iconst 0, 1) := by decide +kernel
theorem dX8_read_95 : decode cX8_read 95 = .ok (.iload_n 1, 1) := by decide +kernel
theorem dX8_read_96 : decode cX8_read 96 = .ok (.iload_n 2, 1) := by decide +kernel
theorem dX8_read_97 : decode cX8_read 97 = .ok (.aload_n 0, 1) := by decide +kernel
theorem dX8_read_98 : decode cX8_read 98 = .ok (.getfield 50, 3) := by decide +kernel
theorem dX8_read_101 : decode cX8_read 101 = .ok (.aload_n 0, 1) := by decide +kernel
theorem dX8_read_102 : decode cX8_read 102 = .ok (.getfield 53, 3) := by decide +kernel
theorem dX8_read_105 : decode cX8_read 105 = .ok (.invokevirtual 131, 3) := by decide +kernel
theorem dX8_read_108 : decode cX8_read 108 = .ok (.aload_n 0, 1) := by decide +kernel
theorem dX8_read_109 : decode cX8_read 109 = .ok (.iload_n 1, 1) := by decide +kernel
theorem dX8_read_110 : decode cX8_read 110 = .ok (.aload_n 3, 1) := by decide +kernel
theorem dX8_read_111 : decode cX8_read 111 = .ok (.invokevirtual 135, 3) := by decide +kernel
theorem dX8_read_114 : decode cX8_read 114 = .ok (.aload_n 0, 1) := by decide +kernel
theorem dX8_read_115 : decode cX8_read 115 = .ok (.getfield 53, 3) := by decide +kernel
theorem dX8_read_118 : decode cX8_read 118 = .ok (.ireturn, 1) := by decide +kernel
theorem dX8_got_0 : decode cX8_got 0 = .ok (.iload_n 1, 1) := by decide +kernel
theorem dX8_got_1 : decode cX8_got 1 = .ok (.ifCond .lt 20, 3) := by decide +kernel
theorem dX8_got_4 : decode cX8_got 4 = .ok (.iload_n 1, 1) := by decide +kernel
theorem dX8_got_5 : decode cX8_got 5 = .ok (.aload_n 0, 1) := by decide +kernel
theorem dX8_got_6 : decode cX8_got 6 = .ok (.getfield 53, 3) := by decide +kernel
theorem dX8_got_9 : decode cX8_got 9 = .ok (.if_icmp .ge 12, 3) := by decide +kernel
theorem dX8_got_12 : decode cX8_got 12 = .ok (.aload_n 0, 1) := by decide +kernel
theorem dX8_got_13 : decode cX8_got 13 = .ok (.getfield 50, 3) := by decide +kernel
theorem dX8_got_16 : decode cX8_got 16 = .ok (.iload_n 1, 1) := by decide +kernel
theorem dX8_got_17 : decode cX8_got 17 = .ok (.iaload, 1) := by decide +kernel
theorem dX8_got_18 : decode cX8_got 18 = .ok (.goto 4, 3) := by decide +kernel
theorem dX8_got_21 : decode cX8_got 21 = .ok (.iconst (-1), 1) := by decide +kernel
theorem dX8_got_22 : decode cX8_got 22 = .ok (.ireturn, 1) := by decide +kernel
set_option maxRecDepth 20000 in
theorem ggX8_split_X8_isWorld : GoodIn wsX8_split wsX8_isWorld := goodIn_r _ [10, 1, 11, 12, 13, 14, 15, 16, 139, 140, 141, 142, 143, 144, 145, 146, 147, 148, 149, 150, 151, 152, 156, 157, 158] (by decide +kernel) (by decide +kernel)
set_option maxRecDepth 20000 in
theorem gX8_split_X8_isWorld : GoodIn wsX8_split (wsV RX8 153 RX8 yX8_isWorld wsX8_isWorld) := goodIn_app (goodIn_of _ (by decide +kernel)) ggX8_split_X8_isWorld
set_option maxRecDepth 20000 in
theorem ggX8_split_Jx4a65c_size_8abf5 : GoodIn wsX8_split wsJx4a65c_size_8abf5 := goodIn_r _ [15, 16, 156, 157, 158] (by decide +kernel) (by decide +kernel)
set_option maxRecDepth 20000 in
theorem gX8_split_Jx4a65c_size_8abf5 : GoodIn wsX8_split (wsV RX8 156 RJx4a65c yJx4a65c_size_8abf5 wsJx4a65c_size_8abf5) := goodIn_app (goodIn_of _ (by decide +kernel)) ggX8_split_Jx4a65c_size_8abf5
set_option maxRecDepth 20000 in
theorem ggX8_split_X7_init : GoodIn wsX8_split wsX7_init := goodIn_r _ [19, 20, 21, 22, 23, 24, 25, 26, 27, 28, 29, 30, 31, 32, 33, 34, 35, 36, 37, 38, 39, 40, 41, 42, 43, 44, 45, 46, 47, 48, 49, 153, 154, 155, 159, 160, 161, 162] (by decide +kernel) (by decide +kernel)
set_option maxRecDepth 20000 in
theorem gX8_split_X7_init : GoodIn wsX8_split (wsX7_init) := ggX8_split_X7_init
set_option maxRecDepth 20000 in
theorem ggX8_split_Jx4a65c_get_915e3 : GoodIn wsX8_split wsJx4a65c_get_915e3 := goodIn_r _ [53, 16, 54, 55, 56, 57, 58, 59, 60, 61, 62, 63, 64, 14, 65, 66, 156, 157, 158] (by decide +kernel) (by decide +kernel)
set_option maxRecDepth 20000 in
theorem gX8_split_Jx4a65c_get_915e3 : GoodIn wsX8_split (wsV RX8 115 RJx4a65c yJx4a65c_get_915e3 wsJx4a65c_get_915e3) := goodIn_app (goodIn_of _ (by decide +kernel)) ggX8_split_Jx4a65c_get_915e3
set_option maxRecDepth 20000 in
theorem ggX8_split_X7_become : GoodIn wsX8_split wsX7_become := goodIn_r _ [70, 24, 28, 32, 71, 72, 73, 34, 74, 49, 75, 76, 77, 78, 79, 80, 81, 27, 82, 39, 83, 40, 84, 85, 86, 31, 87, 44, 88, 153, 154, 155, 162, 159, 160, 161] (by decide +kernel) (by decide +kernel)
set_option maxRecDepth 20000 in
theorem gX8_split_X7_become : GoodIn wsX8_split (wsV RX8 160 RX7 yX7_become wsX7_become) := goodIn_app (goodIn_of _ (by decide +kernel)) ggX8_split_X7_become
set_option maxRecDepth 20000 in
theorem ggX8_split_Jx4a65c_add_9ea2d : GoodIn wsX8_split wsJx4a65c_add_9ea2d := goodIn_r _ [92, 93, 94, 66, 16, 95, 96, 97, 14, 98, 99, 100, 101, 102, 103, 104, 105, 106, 107, 108, 109, 110, 111, 112, 113, 114, 115, 116, 117, 118, 119, 120, 121, 122, 123, 124, 125, 126, 127, 128, 129, 130, 131, 132, 133, 134, 135, 136, 137, 138, 76, 77, 78, 156, 157, 158] (by decide +kernel) (by decide +kernel)
set_option maxRecDepth 20000 in
theorem gX8_split_Jx4a65c_add_9ea2d : GoodIn wsX8_split (wsV RX8 104 RJx4a65c yJx4a65c_add_9ea2d wsJx4a65c_add_9ea2d) := goodIn_app (goodIn_of _ (by decide +kernel)) ggX8_split_Jx4a65c_add_9ea2d
theorem dX8_split_0 : decode cX8_split 0 = .ok (.aload_n 0, 1) := by decide +kernel
theorem dX8_split_1 : decode cX8_split 1 = .ok (.iload_n 1, 1) := by decide +kernel
theorem dX8_split_2 : decode cX8_split 2 = .ok (.invokevirtual 153, 3) := by decide +kernel
theorem dX8_split_5 : decode cX8_split 5 = .ok (.ifCond .eq 15, 3) := by decide +kernel
theorem dX8_split_8 : decode cX8_split 8 = .ok (.aload_n 0, 1) := by decide +kernel
theorem dX8_split_9 : decode cX8_split 9 = .ok (.getfield 30, 3) := by decide +kernel
theorem dX8_split_12 : decode cX8_split 12 = .ok (.invokevirtual 156, 3) := by decide +kernel
theorem dX8_split_15 : decode cX8_split 15 = .ok (.bipush 6, 2) := by decide +kernel
theorem dX8_split_17 : decode cX8_split 17 = .ok (.if_icmp .lt 5, 3) := by decide +kernel
theorem dX8_split_20 : decode cX8_split 20 = .ok (.iconst (-1), 1) := by decide +kernel
theorem dX8_split_21 : decode cX8_split 21 = .ok (.ireturn, 1) := by decide +kernel
theorem dX8_split_22 : decode cX8_split 22 = .ok (.new 73, 3) := by decide +kernel
theorem dX8_split_25 : decode cX8_split 25 = .ok (.dup, 1) := by decide +kernel
theorem dX8_split_26 : decode cX8_split 26 = .ok (.invokespecial 75, 3) := by decide +kernel
theorem dX8_split_29 : decode cX8_split 29 = .ok (.astore_n 2, 1) := by decide +kernel
theorem dX8_split_30 : decode cX8_split 30 = .ok (.aload_n 2, 1) := by decide +kernel
theorem dX8_split_31 : decode cX8_split 31 = .ok (.aload_n 0, 1) := by decide +kernel
theorem dX8_split_32 : decode cX8_split 32 = .ok (.getfield 30, 3) := by decide +kernel
theorem dX8_split_35 : decode cX8_split 35 = .ok (.iload_n 1, 1) := by decide +kernel
theorem dX8_split_36 : decode cX8_split 36 = .ok (.invokevirtual 115, 3) := by decide +kernel
theorem dX8_split_39 : decode cX8_split 39 = .ok (.checkcast 73, 3) := by decide +kernel
theorem dX8_split_42 : decode cX8_split 42 = .ok (.invokevirtual 160, 3) := by decide +kernel
theorem dX8_split_45 : decode cX8_split 45 = .ok (.aload_n 0, 1) := by decide +kernel
theorem dX8_split_46 : decode cX8_split 46 = .ok (.getfield 30, 3) := by decide +kernel
theorem dX8_split_49 : decode cX8_split 49 = .ok (.aload_n 2, 1) := by decide +kernel
theorem dX8_split_50 : decode cX8_split 50 = .ok (.invokevirtual 104, 3) := by decide +kernel
theorem dX8_split_53 : decode cX8_split 53 = .ok (.pop, 1) := by decide +kernel
theorem dX8_split_54 : decode cX8_split 54 = .ok (.aload_n 0, 1) := by decide +kernel
theorem dX8_split_55 : decode cX8_split 55 = .ok (.getfield 30, 3) := by decide +kernel
theorem dX8_split_58 : decode cX8_split 58 = .ok (.invokevirtual 156, 3) := by decide +kernel
theorem dX8_split_61 : decode cX8_split 61 = .ok (.iconst 1, 1) := by decide +kernel
theorem dX8_split_62 : decode cX8_split 62 = .ok (.isub, 1) := by decide +kernel
theorem dX8_split_63 : decode cX8_split 63 = .ok (.ireturn, 1) := by decide +kernel
set_option maxRecDepth 20000 in
theorem ggX8_show_X8_isClient : GoodIn wsX8_show wsX8_isClient := goodIn_r _ [5] (by decide +kernel) (by decide +kernel)
set_option maxRecDepth 20000 in
theorem gX8_show_X8_isClient : GoodIn wsX8_show (va_wsS RX8 108 yX8_isClient wsX8_isClient) := goodIn_app (goodIn_of _ (by decide +kernel)) ggX8_show_X8_isClient
set_option maxRecDepth 20000 in
theorem ggX8_show_X8_isWorld : GoodIn wsX8_show wsX8_isWorld := goodIn_r _ [9, 10, 11, 12, 13, 14, 15, 16, 17, 18, 19, 20, 21, 22, 23, 24, 25, 26, 27, 28, 29, 30, 31, 32, 33] (by decide +kernel) (by decide +kernel)
set_option maxRecDepth 20000 in
theorem gX8_show_X8_isWorld : GoodIn wsX8_show (wsV RX8 153 RX8 yX8_isWorld wsX8_isWorld) := goodIn_app (goodIn_of _ (by decide +kernel)) ggX8_show_X8_isWorld
theorem dX8_show_0 : decode cX8_show 0 = .ok (.iload_n 1, 1) := by decide +kernel
theorem dX8_show_1 : decode cX8_show 1 = .ok (.invokestatic 108, 3) := by decide +kernel
theorem dX8_show_4 : decode cX8_show 4 = .ok (.ifCond .eq 11, 3) := by decide +kernel
theorem dX8_show_7 : decode cX8_show 7 = .ok (.aload_n 0, 1) := by decide +kernel
theorem dX8_show_8 : decode cX8_show 8 = .ok (.iload_n 2, 1) := by decide +kernel
theorem dX8_show_9 : decode cX8_show 9 = .ok (.invokevirtual 153, 3) := by decide +kernel
theorem dX8_show_12 : decode cX8_show 12 = .ok (.ifCond .ne 5, 3) := by decide +kernel
theorem dX8_show_15 : decode cX8_show 15 = .ok (.iconst (-1), 1) := by decide +kernel
theorem dX8_show_16 : decode cX8_show 16 = .ok (.ireturn, 1) := by decide +kernel
theorem dX8_show_17 : decode cX8_show 17 = .ok (.aload_n 0, 1) := by decide +kernel
theorem dX8_show_18 : decode cX8_show 18 = .ok (.getfield 40, 3) := by decide +kernel
theorem dX8_show_21 : decode cX8_show 21 = .ok (.iload_n 1, 1) := by decide +kernel
theorem dX8_show_22 : decode cX8_show 22 = .ok (.iaload, 1) := by decide +kernel
theorem dX8_show_23 : decode cX8_show 23 = .ok (.istore_n 3, 1) := by decide +kernel
theorem dX8_show_24 : decode cX8_show 24 = .ok (.aload_n 0, 1) := by decide +kernel
theorem dX8_show_25 : decode cX8_show 25 = .ok (.getfield 40, 3) := by decide +kernel
theorem dX8_show_28 : decode cX8_show 28 = .ok (.iload_n 1, 1) := by decide +kernel
theorem dX8_show_29 : decode cX8_show 29 = .ok (.iload_n 2, 1) := by decide +kernel
theorem dX8_show_30 : decode cX8_show 30 = .ok (.iastore, 1) := by decide +kernel
theorem dX8_show_31 : decode cX8_show 31 = .ok (.iload_n 3, 1) := by decide +kernel
theorem dX8_show_32 : decode cX8_show 32 = .ok (.ireturn, 1) := by decide +kernel
set_option maxRecDepth 20000 in
theorem ggX8_graft_X8_isWorld : GoodIn wsX8_graft wsX8_isWorld := goodIn_r _ [9, 1, 10, 11, 12, 13, 14, 15, 46, 47, 48, 49, 50, 51, 52, 53, 54, 55, 56, 57, 58, 59, 63, 64, 65] (by decide +kernel) (by decide +kernel)
set_option maxRecDepth 20000 in
theorem gX8_graft_X8_isWorld : GoodIn wsX8_graft (wsV RX8 153 RX8 yX8_isWorld wsX8_isWorld) := goodIn_app (goodIn_of _ (by decide +kernel)) ggX8_graft_X8_isWorld
set_option maxRecDepth 20000 in
theorem ggX8_graft_X8_isClient : GoodIn wsX8_graft wsX8_isClient := goodIn_r _ [18] (by decide +kernel) (by decide +kernel)
set_option maxRecDepth 20000 in
theorem gX8_graft_X8_isClient : GoodIn wsX8_graft (va_wsS RX8 108 yX8_isClient wsX8_isClient) := goodIn_app (goodIn_of _ (by decide +kernel)) ggX8_graft_X8_isClient
set_option maxRecDepth 20000 in
theorem ggX8_graft_Jx4a65c_get_915e3 : GoodIn wsX8_graft wsJx4a65c_get_915e3 := goodIn_r _ [22, 15, 23, 24, 25, 26, 27, 28, 29, 30, 31, 32, 33, 13, 34, 35, 63, 64, 65] (by decide +kernel) (by decide +kernel)
set_option maxRecDepth 20000 in
theorem gX8_graft_Jx4a65c_get_915e3 : GoodIn wsX8_graft (wsV RX8 115 RJx4a65c yJx4a65c_get_915e3 wsJx4a65c_get_915e3) := goodIn_app (goodIn_of _ (by decide +kernel)) ggX8_graft_Jx4a65c_get_915e3
set_option maxRecDepth 20000 in
theorem ggX8_graft_X5_become : GoodIn wsX8_graft wsX5_become := goodIn_r _ [40, 41, 42, 43, 44, 45, 66] (by decide +kernel) (by decide +kernel)
set_option maxRecDepth 20000 in
theorem gX8_graft_X5_become : GoodIn wsX8_graft (wsV RX8 100 RX5 yX5_become wsX5_become) := goodIn_app (goodIn_of _ (by decide +kernel)) ggX8_graft_X5_become
theorem dX8_graft_0 : decode cX8_graft 0 = .ok (.aload_n 0, 1) := by decide +kernel
theorem dX8_graft_1 : decode cX8_graft 1 = .ok (.iload_n 1, 1) := by decide +kernel
theorem dX8_graft_2 : decode cX8_graft 2 = .ok (.invokevirtual 153, 3) := by decide +kernel
theorem dX8_graft_5 : decode cX8_graft 5 = .ok (.ifCond .eq 18, 3) := by decide +kernel
theorem dX8_graft_8 : decode cX8_graft 8 = .ok (.iload_n 2, 1) := by decide +kernel
theorem dX8_graft_9 : decode cX8_graft 9 = .ok (.invokestatic 108, 3) := by decide +kernel
theorem dX8_graft_12 : decode cX8_graft 12 = .ok (.ifCond .eq 11, 3) := by decide +kernel
theorem dX8_graft_15 : decode cX8_graft 15 = .ok (.aload_n 0, 1) := by decide +kernel
theorem dX8_graft_16 : decode cX8_graft 16 = .ok (.iload_n 3, 1) := by decide +kernel
theorem dX8_graft_17 : decode cX8_graft 17 = .ok (.invokevirtual 153, 3) := by decide +kernel
theorem dX8_graft_20 : decode cX8_graft 20 = .ok (.ifCond .ne 5, 3) := by decide +kernel
theorem dX8_graft_23 : decode cX8_graft 23 = .ok (.iconst 0, 1) := by decide +kernel
theorem dX8_graft_24 : decode cX8_graft 24 = .ok (.ireturn, 1) := by decide +kernel
theorem dX8_graft_25 : decode cX8_graft 25 = .ok (.aload_n 0, 1) := by decide +kernel
theorem dX8_graft_26 : decode cX8_graft 26 = .ok (.getfield 30, 3) := by decide +kernel
theorem dX8_graft_29 : decode cX8_graft 29 = .ok (.iload_n 1, 1) := by decide +kernel
theorem dX8_graft_30 : decode cX8_graft 30 = .ok (.invokevirtual 115, 3) := by decide +kernel
theorem dX8_graft_33 : decode cX8_graft 33 = .ok (.checkcast 73, 3) := by decide +kernel
theorem dX8_graft_36 : decode cX8_graft 36 = .ok (.getfield 97, 3) := by decide +kernel
theorem dX8_graft_39 : decode cX8_graft 39 = .ok (.iload_n 2, 1) := by decide +kernel
theorem dX8_graft_40 : decode cX8_graft 40 = .ok (.aaload, 1) := by decide +kernel
theorem dX8_graft_41 : decode cX8_graft 41 = .ok (.aload_n 0, 1) := by decide +kernel
theorem dX8_graft_42 : decode cX8_graft 42 = .ok (.getfield 30, 3) := by decide +kernel
theorem dX8_graft_45 : decode cX8_graft 45 = .ok (.iload_n 3, 1) := by decide +kernel
theorem dX8_graft_46 : decode cX8_graft 46 = .ok (.invokevirtual 115, 3) := by decide +kernel
theorem dX8_graft_49 : decode cX8_graft 49 = .ok (.checkcast 73, 3) := by decide +kernel
theorem dX8_graft_52 : decode cX8_graft 52 = .ok (.getfield 97, 3) := by decide +kernel
theorem dX8_graft_55 : decode cX8_graft 55 = .ok (.iload_n 2, 1) := by decide +kernel
theorem dX8_graft_56 : decode cX8_graft 56 = .ok (.aaload, 1) := by decide +kernel
theorem dX8_graft_57 : decode cX8_graft 57 = .ok (.invokevirtual 100, 3) := by decide +kernel
theorem dX8_graft_60 : decode cX8_graft 60 = .ok (.aload_n 0, 1) := by decide +kernel
theorem dX8_graft_61 : decode cX8_graft 61 = .ok (.iconst 1, 1) := by decide +kernel
theorem dX8_graft_62 : decode cX8_graft 62 = .ok (.putfield 63, 3) := by decide +kernel
theorem dX8_graft_65 : decode cX8_graft 65 = .ok (.iconst 1, 1) := by decide +kernel
theorem dX8_graft_66 : decode cX8_graft 66 = .ok (.ireturn, 1) := by decide +kernel
set_option maxRecDepth 20000 in
theorem ggX8_poke_X8_isWorld : GoodIn wsX8_poke wsX8_isWorld := goodIn_r _ [10, 1, 11, 12, 13, 14, 15, 16, 43, 44, 45, 46, 47, 48, 49, 50, 51, 52, 53, 54, 55, 56, 61, 62, 63] (by decide +kernel) (by decide +kernel)
set_option maxRecDepth 20000 in
theorem gX8_poke_X8_isWorld : GoodIn wsX8_poke (wsV RX8 153 RX8 yX8_isWorld wsX8_isWorld) := goodIn_app (goodIn_of _ (by decide +kernel)) ggX8_poke_X8_isWorld
set_option maxRecDepth 20000 in
theorem ggX8_poke_X8_isClient : GoodIn wsX8_poke wsX8_isClient := goodIn_r _ [19] (by decide +kernel) (by decide +kernel)
set_option maxRecDepth 20000 in
theorem gX8_poke_X8_isClient : GoodIn wsX8_poke (va_wsS RX8 108 yX8_isClient wsX8_isClient) := goodIn_app (goodIn_of _ (by decide +kernel)) ggX8_poke_X8_isClient
set_option maxRecDepth 20000 in
theorem ggX8_poke_X8_isStatementByte : GoodIn wsX8_poke wsX8_isStatementByte := goodIn_r _ [22] (by decide +kernel) (by decide +kernel)
set_option maxRecDepth 20000 in
theorem gX8_poke_X8_isStatementByte : GoodIn wsX8_poke (va_wsS RX8 163 yX8_isStatementByte wsX8_isStatementByte) := goodIn_app (goodIn_of _ (by decide +kernel)) ggX8_poke_X8_isStatementByte
set_option maxRecDepth 20000 in
theorem ggX8_poke_X8_isMask : GoodIn wsX8_poke wsX8_isMask := goodIn_r _ [25] (by decide +kernel) (by decide +kernel)
set_option maxRecDepth 20000 in
theorem gX8_poke_X8_isMask : GoodIn wsX8_poke (va_wsS RX8 166 yX8_isMask wsX8_isMask) := goodIn_app (goodIn_of _ (by decide +kernel)) ggX8_poke_X8_isMask
set_option maxRecDepth 20000 in
theorem ggX8_poke_Jx4a65c_get_915e3 : GoodIn wsX8_poke wsJx4a65c_get_915e3 := goodIn_r _ [29, 16, 30, 31, 32, 33, 34, 35, 36, 37, 38, 39, 40, 14, 41, 42, 61, 62, 63] (by decide +kernel) (by decide +kernel)
set_option maxRecDepth 20000 in
theorem gX8_poke_Jx4a65c_get_915e3 : GoodIn wsX8_poke (wsV RX8 115 RJx4a65c yJx4a65c_get_915e3 wsJx4a65c_get_915e3) := goodIn_app (goodIn_of _ (by decide +kernel)) ggX8_poke_Jx4a65c_get_915e3
theorem dX8_poke_0 : decode cX8_poke 0 = .ok (.aload_n 0, 1) := by decide +kernel
theorem dX8_poke_1 : decode cX8_poke 1 = .ok (.iload_n 1, 1) := by decide +kernel
theorem dX8_poke_2 : decode cX8_poke 2 = .ok (.invokevirtual 153, 3) := by decide +kernel
theorem dX8_poke_5 : decode cX8_poke 5 = .ok (.ifCond .eq 25, 3) := by decide +kernel
theorem dX8_poke_8 : decode cX8_poke 8 = .ok (.iload_n 2, 1) := by decide +kernel
theorem dX8_poke_9 : decode cX8_poke 9 = .ok (.invokestatic 108, 3) := by decide +kernel
theorem dX8_poke_12 : decode cX8_poke 12 = .ok (.ifCond .eq 18, 3) := by decide +kernel
theorem dX8_poke_15 : decode cX8_poke 15 = .ok (.iload_n 3, 1) := by decide +kernel
theorem dX8_poke_16 : decode cX8_poke 16 = .ok (.invokestatic 163, 3) := by decide +kernel
theorem dX8_poke_19 : decode cX8_poke 19 = .ok (.ifCond .eq 11, 3) := by decide +kernel
theorem dX8_poke_22 : decode cX8_poke 22 = .ok (.iload 4, 2) := by decide +kernel
theorem dX8_poke_24 : decode cX8_poke 24 = .ok (.invokestatic 166, 3) := by decide +kernel
theorem dX8_poke_27 : decode cX8_poke 27 = .ok (.ifCond .ne 5, 3) := by decide +kernel
theorem dX8_poke_30 : decode cX8_poke 30 = .ok (.iconst 0, 1) := by decide +kernel
theorem dX8_poke_31 : decode cX8_poke 31 = .ok (.ireturn, 1) := by decide +kernel
theorem dX8_poke_32 : decode cX8_poke 32 = .ok (.aload_n 0, 1) := by decide +kernel
theorem dX8_poke_33 : decode cX8_poke 33 = .ok (.getfield 30, 3) := by decide +kernel
theorem dX8_poke_36 : decode cX8_poke 36 = .ok (.iload_n 1, 1) := by decide +kernel
theorem dX8_poke_37 : decode cX8_poke 37 = .ok (.invokevirtual 115, 3) := by decide +kernel
theorem dX8_poke_40 : decode cX8_poke 40 = .ok (.checkcast 73, 3) := by decide +kernel
theorem dX8_poke_43 : decode cX8_poke 43 = .ok (.getfield 97, 3) := by decide +kernel
theorem dX8_poke_46 : decode cX8_poke 46 = .ok (.iload_n 2, 1) := by decide +kernel
theorem dX8_poke_47 : decode cX8_poke 47 = .ok (.aaload, 1) := by decide +kernel
theorem dX8_poke_48 : decode cX8_poke 48 = .ok (.getfield 169, 3) := by decide +kernel
theorem dX8_poke_51 : decode cX8_poke 51 = .ok (.iload_n 3, 1) := by decide +kernel
theorem dX8_poke_52 : decode cX8_poke 52 = .ok (.dup2, 1) := by decide +kernel
theorem dX8_poke_53 : decode cX8_poke 53 = .ok (.iaload, 1) := by decide +kernel
theorem dX8_poke_54 : decode cX8_poke 54 = .ok (.iload 4, 2) := by decide +kernel
theorem dX8_poke_56 : decode cX8_poke 56 = .ok (.ixor, 1) := by decide +kernel
theorem dX8_poke_57 : decode cX8_poke 57 = .ok (.iastore, 1) := by decide +kernel
theorem dX8_poke_58 : decode cX8_poke 58 = .ok (.aload_n 0, 1) := by decide +kernel
theorem dX8_poke_59 : decode cX8_poke 59 = .ok (.iconst 1, 1) := by decide +kernel
theorem dX8_poke_60 : decode cX8_poke 60 = .ok (.putfield 63, 3) := by decide +kernel
theorem dX8_poke_63 : decode cX8_poke 63 = .ok (.iconst 1, 1) := by decide +kernel
theorem dX8_poke_64 : decode cX8_poke 64 = .ok (.ireturn, 1) := by decide +kernel
set_option maxRecDepth 20000 in
theorem ggX8_spoil_X8_isWorld : GoodIn wsX8_spoil wsX8_isWorld := goodIn_r _ [11, 1, 12, 13, 14, 15, 16, 17, 102, 103, 104, 105, 106, 107, 108, 109, 110, 111, 112, 113, 114, 115, 121, 122, 123] (by decide +kernel) (by decide +kernel)
set_option maxRecDepth 20000 in
theorem gX8_spoil_X8_isWorld : GoodIn wsX8_spoil (wsV RX8 153 RX8 yX8_isWorld wsX8_isWorld) := goodIn_app (goodIn_of _ (by decide +kernel)) ggX8_spoil_X8_isWorld
set_option maxRecDepth 20000 in
theorem ggX8_spoil_X8_isFile : GoodIn wsX8_spoil wsX8_isFile := goodIn_r _ [20] (by decide +kernel) (by decide +kernel)
set_option maxRecDepth 20000 in
theorem gX8_spoil_X8_isFile : GoodIn wsX8_spoil (va_wsS RX8 112 yX8_isFile wsX8_isFile) := goodIn_app (goodIn_of _ (by decide +kernel)) ggX8_spoil_X8_isFile
set_option maxRecDepth 20000 in
theorem ggX8_spoil_X8_isMask : GoodIn wsX8_spoil wsX8_isMask := goodIn_r _ [23] (by decide +kernel) (by decide +kernel)
set_option maxRecDepth 20000 in
theorem gX8_spoil_X8_isMask : GoodIn wsX8_spoil (va_wsS RX8 166 yX8_isMask wsX8_isMask) := goodIn_app (goodIn_of _ (by decide +kernel)) ggX8_spoil_X8_isMask
set_option maxRecDepth 20000 in
theorem ggX8_spoil_Jx4a65c_get_915e3 : GoodIn wsX8_spoil wsJx4a65c_get_915e3 := goodIn_r _ [27, 17, 28, 29, 30, 31, 32, 33, 34, 35, 36, 37, 38, 15, 39, 40, 121, 122, 123] (by decide +kernel) (by decide +kernel)
set_option maxRecDepth 20000 in
theorem gX8_spoil_Jx4a65c_get_915e3 : GoodIn wsX8_spoil (wsV RX8 115 RJx4a65c yJx4a65c_get_915e3 wsJx4a65c_get_915e3) := goodIn_app (goodIn_of _ (by decide +kernel)) ggX8_spoil_Jx4a65c_get_915e3
set_option maxRecDepth 20000 in
theorem ggX8_spoil_X7_flip : GoodIn wsX8_spoil wsX7_flip := goodIn_r _ [45, 46, 47, 48, 49, 50, 51, 52, 53, 54, 55, 56, 57, 58, 59, 60, 61, 62, 63, 64, 65, 66, 67, 68, 69, 70, 71, 72, 73, 74, 75, 76, 77, 78, 79, 80, 81, 82, 83, 84, 85, 86, 87, 88, 89, 90, 91, 92, 93, 94, 95, 96, 97, 98, 99, 100, 101, 116, 117, 118, 119, 120, 124, 125, 126, 127, 128] (by decide +kernel) (by decide +kernel)
set_option maxRecDepth 20000 in
theorem gX8_spoil_X7_flip : GoodIn wsX8_spoil (wsV RX8 172 RX7 yX7_flip wsX7_flip) := goodIn_app (goodIn_of _ (by decide +kernel)) ggX8_spoil_X7_flip
theorem dX8_spoil_0 : decode cX8_spoil 0 = .ok (.aload_n 0, 1) := by decide +kernel
theorem dX8_spoil_1 : decode cX8_spoil 1 = .ok (.iload_n 1, 1) := by decide +kernel
theorem dX8_spoil_2 : decode cX8_spoil 2 = .ok (.invokevirtual 153, 3) := by decide +kernel
theorem dX8_spoil_5 : decode cX8_spoil 5 = .ok (.ifCond .eq 18, 3) := by decide +kernel
theorem dX8_spoil_8 : decode cX8_spoil 8 = .ok (.iload_n 2, 1) := by decide +kernel
theorem dX8_spoil_9 : decode cX8_spoil 9 = .ok (.invokestatic 112, 3) := by decide +kernel
theorem dX8_spoil_12 : decode cX8_spoil 12 = .ok (.ifCond .eq 11, 3) := by decide +kernel
theorem dX8_spoil_15 : decode cX8_spoil 15 = .ok (.iload 4, 2) := by decide +kernel
theorem dX8_spoil_17 : decode cX8_spoil 17 = .ok (.invokestatic 166, 3) := by decide +kernel
theorem dX8_spoil_20 : decode cX8_spoil 20 = .ok (.ifCond .ne 5, 3) := by decide +kernel
theorem dX8_spoil_23 : decode cX8_spoil 23 = .ok (.iconst 0, 1) := by decide +kernel
theorem dX8_spoil_24 : decode cX8_spoil 24 = .ok (.ireturn, 1) := by decide +kernel
theorem dX8_spoil_25 : decode cX8_spoil 25 = .ok (.aload_n 0, 1) := by decide +kernel
theorem dX8_spoil_26 : decode cX8_spoil 26 = .ok (.getfield 30, 3) := by decide +kernel
theorem dX8_spoil_29 : decode cX8_spoil 29 = .ok (.iload_n 1, 1) := by decide +kernel
theorem dX8_spoil_30 : decode cX8_spoil 30 = .ok (.invokevirtual 115, 3) := by decide +kernel
theorem dX8_spoil_33 : decode cX8_spoil 33 = .ok (.checkcast 73, 3) := by decide +kernel
theorem dX8_spoil_36 : decode cX8_spoil 36 = .ok (.astore 5, 2) := by decide +kernel
theorem dX8_spoil_38 : decode cX8_spoil 38 = .ok (.iload_n 3, 1) := by decide +kernel
theorem dX8_spoil_39 : decode cX8_spoil 39 = .ok (.ifCond .lt 17, 3) := by decide +kernel
theorem dX8_spoil_42 : decode cX8_spoil 42 = .ok (.iload_n 3, 1) := by decide +kernel
theorem dX8_spoil_43 : decode cX8_spoil 43 = .ok (.aload 5, 2) := by decide +kernel
theorem dX8_spoil_45 : decode cX8_spoil 45 = .ok (.getfield 80, 3) := by decide +kernel
theorem dX8_spoil_48 : decode cX8_spoil 48 = .ok (.getfield 139, 3) := by decide +kernel
theorem dX8_spoil_51 : decode cX8_spoil 51 = .ok (.iload_n 2, 1) := by decide +kernel
theorem dX8_spoil_52 : decode cX8_spoil 52 = .ok (.iaload, 1) := by decide +kernel
theorem dX8_spoil_53 : decode cX8_spoil 53 = .ok (.if_icmp .lt 5, 3) := by decide +kernel
theorem dX8_spoil_56 : decode cX8_spoil 56 = .ok (.iconst 0, 1) := by decide +kernel
theorem dX8_spoil_57 : decode cX8_spoil 57 = .ok (.ireturn, 1) := by decide +kernel
theorem dX8_spoil_58 : decode cX8_spoil 58 = .ok (.aload 5, 2) := by decide +kernel
theorem dX8_spoil_60 : decode cX8_spoil 60 = .ok (.iload_n 2, 1) := by decide +kernel
theorem dX8_spoil_61 : decode cX8_spoil 61 = .ok (.iload_n 3, 1) := by decide +kernel
theorem dX8_spoil_62 : decode cX8_spoil 62 = .ok (.iload 4, 2) := by decide +kernel
theorem dX8_spoil_64 : decode cX8_spoil 64 = .ok (.aload_n 0, 1) := by decide +kernel
theorem dX8_spoil_65 : decode cX8_spoil 65 = .ok (.getfield 10, 3) := by decide +kernel
theorem dX8_spoil_68 : decode cX8_spoil 68 = .ok (.invokevirtual 172, 3) := by decide +kernel
theorem dX8_spoil_71 : decode cX8_spoil 71 = .ok (.aload_n 0, 1) := by decide +kernel
theorem dX8_spoil_72 : decode cX8_spoil 72 = .ok (.iconst 1, 1) := by decide +kernel
theorem dX8_spoil_73 : decode cX8_spoil 73 = .ok (.putfield 63, 3) := by decide +kernel
theorem dX8_spoil_76 : decode cX8_spoil 76 = .ok (.iconst 1, 1) := by decide +kernel
theorem dX8_spoil_77 : decode cX8_spoil 77 = .ok (.ireturn, 1) := by decide +kernel
set_option maxRecDepth 20000 in
theorem ggX8_exchange_X8_isClient : GoodIn wsX8_exchange wsX8_isClient := goodIn_r _ [5] (by decide +kernel) (by decide +kernel)
set_option maxRecDepth 20000 in
theorem gX8_exchange_X8_isClient : GoodIn wsX8_exchange (va_wsS RX8 108 yX8_isClient wsX8_isClient) := goodIn_app (goodIn_of _ (by decide +kernel)) ggX8_exchange_X8_isClient
set_option maxRecDepth 20000 in
theorem ggX8_exchange_X5_isInLineWith : GoodIn wsX8_exchange wsX5_isInLineWith := goodIn_r _ [10, 11, 12, 13, 9, 14, 15, 16, 17, 18, 19, 34] (by decide +kernel) (by decide +kernel)
set_option maxRecDepth 20000 in
theorem gX8_exchange_X5_isInLineWith : GoodIn wsX8_exchange (wsV RX8 176 RX5 yX5_isInLineWith wsX5_isInLineWith) := goodIn_app (goodIn_of _ (by decide +kernel)) ggX8_exchange_X5_isInLineWith
theorem dX8_exchange_0 : decode cX8_exchange 0 = .ok (.iload_n 1, 1) := by decide +kernel
theorem dX8_exchange_1 : decode cX8_exchange 1 = .ok (.invokestatic 108, 3) := by decide +kernel
theorem dX8_exchange_4 : decode cX8_exchange 4 = .ok (.ifCond .eq 15, 3) := by decide +kernel
theorem dX8_exchange_7 : decode cX8_exchange 7 = .ok (.iload_n 2, 1) := by decide +kernel
theorem dX8_exchange_8 : decode cX8_exchange 8 = .ok (.invokestatic 108, 3) := by decide +kernel
theorem dX8_exchange_11 : decode cX8_exchange 11 = .ok (.ifCond .eq 8, 3) := by decide +kernel
theorem dX8_exchange_14 : decode cX8_exchange 14 = .ok (.iload_n 1, 1) := by decide +kernel
theorem dX8_exchange_15 : decode cX8_exchange 15 = .ok (.iload_n 2, 1) := by decide +kernel
theorem dX8_exchange_16 : decode cX8_exchange 16 = .ok (.if_icmp .ne 5, 3) := by decide +kernel
theorem dX8_exchange_19 : decode cX8_exchange 19 = .ok (.iconst (-1), 1) := by decide +kernel
theorem dX8_exchange_20 : decode cX8_exchange 20 = .ok (.ireturn, 1) := by decide +kernel
theorem dX8_exchange_21 : decode cX8_exchange 21 = .ok (.aload_n 0, 1) := by decide +kernel
theorem dX8_exchange_22 : decode cX8_exchange 22 = .ok (.getfield 36, 3) := by decide +kernel
theorem dX8_exchange_25 : decode cX8_exchange 25 = .ok (.iload_n 1, 1) := by decide +kernel
theorem dX8_exchange_26 : decode cX8_exchange 26 = .ok (.aaload, 1) := by decide +kernel
theorem dX8_exchange_27 : decode cX8_exchange 27 = .ok (.aload_n 0, 1) := by decide +kernel
theorem dX8_exchange_28 : decode cX8_exchange 28 = .ok (.getfield 36, 3) := by decide +kernel
theorem dX8_exchange_31 : decode cX8_exchange 31 = .ok (.iload_n 2, 1) := by decide +kernel
theorem dX8_exchange_32 : decode cX8_exchange 32 = .ok (.aaload, 1) := by decide +kernel
theorem dX8_exchange_33 : decode cX8_exchange 33 = .ok (.invokevirtual 176, 3) := by decide +kernel
theorem dX8_exchange_36 : decode cX8_exchange 36 = .ok (.ifCond .eq 7, 3) := by decide +kernel
theorem dX8_exchange_39 : decode cX8_exchange 39 = .ok (.iconst 0, 1) := by decide +kernel
theorem dX8_exchange_40 : decode cX8_exchange 40 = .ok (.goto 4, 3) := by decide +kernel
theorem dX8_exchange_43 : decode cX8_exchange 43 = .ok (.iconst 1, 1) := by decide +kernel
theorem dX8_exchange_44 : decode cX8_exchange 44 = .ok (.ireturn, 1) := by decide +kernel
set_option maxRecDepth 20000 in
theorem ggX8_statement_X8_isClient : GoodIn wsX8_statement wsX8_isClient := goodIn_r _ [9] (by decide +kernel) (by decide +kernel)
set_option maxRecDepth 20000 in
theorem gX8_statement_X8_isClient : GoodIn wsX8_statement (va_wsS RX8 108 yX8_isClient wsX8_isClient) := goodIn_app (goodIn_of _ (by decide +kernel)) ggX8_statement_X8_isClient
set_option maxRecDepth 20000 in
theorem ggX8_statement_X8_isStatementByte : GoodIn wsX8_statement wsX8_isStatementByte := goodIn_r _ [12] (by decide +kernel) (by decide +kernel)
set_option maxRecDepth 20000 in
theorem gX8_statement_X8_isStatementByte : GoodIn wsX8_statement (va_wsS RX8 163 yX8_isStatementByte wsX8_isStatementByte) := goodIn_app (goodIn_of _ (by decide +kernel)) ggX8_statement_X8_isStatementByte
set_option maxRecDepth 20000 in
theorem ggX8_statement_X8_isWorld : GoodIn wsX8_statement wsX8_isWorld := goodIn_r _ [16, 3, 17, 18, 19, 20, 21, 22, 40, 41, 42, 43, 44, 45, 46, 47, 48, 49, 50, 51, 52, 53, 58, 59, 60] (by decide +kernel) (by decide +kernel)
set_option maxRecDepth 20000 in
theorem gX8_statement_X8_isWorld : GoodIn wsX8_statement (wsV RX8 153 RX8 yX8_isWorld wsX8_isWorld) := goodIn_app (goodIn_of _ (by decide +kernel)) ggX8_statement_X8_isWorld
set_option maxRecDepth 20000 in
theorem ggX8_statement_Jx4a65c_get_915e3 : GoodIn wsX8_statement wsJx4a65c_get_915e3 := goodIn_r _ [26, 22, 27, 28, 29, 30, 31, 32, 33, 34, 35, 36, 37, 20, 38, 39, 58, 59, 60] (by decide +kernel) (by decide +kernel)
set_option maxRecDepth 20000 in
theorem gX8_statement_Jx4a65c_get_915e3 : GoodIn wsX8_statement (wsV RX8 115 RJx4a65c yJx4a65c_get_915e3 wsJx4a65c_get_915e3) := goodIn_app (goodIn_of _ (by decide +kernel)) ggX8_statement_Jx4a65c_get_915e3
theorem dX8_statement_0 : decode cX8_statement 0 = .ok (.iload_n 2, 1) := by decide +kernel
theorem dX8_statement_1 : decode cX8_statement 1 = .ok (.invokestatic 108, 3) := by decide +kernel
theorem dX8_statement_4 : decode cX8_statement 4 = .ok (.ifCond .eq 10, 3) := by decide +kernel
theorem dX8_statement_7 : decode cX8_statement 7 = .ok (.iload_n 3, 1) := by decide +kernel
theorem dX8_statement_8 : decode cX8_statement 8 = .ok (.invokestatic 163, 3) := by decide +kernel
theorem dX8_statement_11 : decode cX8_statement 11 = .ok (.ifCond .ne 5, 3) := by decide +kernel
theorem dX8_statement_14 : decode cX8_statement 14 = .ok (.iconst (-1), 1) := by decide +kernel
theorem dX8_statement_15 : decode cX8_statement 15 = .ok (.ireturn, 1) := by decide +kernel
theorem dX8_statement_16 : decode cX8_statement 16 = .ok (.iload_n 1, 1) := by decide +kernel
theorem dX8_statement_17 : decode cX8_statement 17 = .ok (.iconst (-1), 1) := by decide +kernel
theorem dX8_statement_18 : decode cX8_statement 18 = .ok (.if_icmp .ne 15, 3) := by decide +kernel
theorem dX8_statement_21 : decode cX8_statement 21 = .ok (.aload_n 0, 1) := by decide +kernel
theorem dX8_statement_22 : decode cX8_statement 22 = .ok (.getfield 36, 3) := by decide +kernel
theorem dX8_statement_25 : decode cX8_statement 25 = .ok (.iload_n 2, 1) := by decide +kernel
theorem dX8_statement_26 : decode cX8_statement 26 = .ok (.aaload, 1) := by decide +kernel
theorem dX8_statement_27 : decode cX8_statement 27 = .ok (.getfield 169, 3) := by decide +kernel
theorem dX8_statement_30 : decode cX8_statement 30 = .ok (.iload_n 3, 1) := by decide +kernel
theorem dX8_statement_31 : decode cX8_statement 31 = .ok (.iaload, 1) := by decide +kernel
theorem dX8_statement_32 : decode cX8_statement 32 = .ok (.ireturn, 1) := by decide +kernel
theorem dX8_statement_33 : decode cX8_statement 33 = .ok (.aload_n 0, 1) := by decide +kernel
theorem dX8_statement_34 : decode cX8_statement 34 = .ok (.iload_n 1, 1) := by decide +kernel
theorem dX8_statement_35 : decode cX8_statement 35 = .ok (.invokevirtual 153, 3) := by decide +kernel
theorem dX8_statement_38 : decode cX8_statement 38 = .ok (.ifCond .eq 27, 3) := by decide +kernel
theorem dX8_statement_41 : decode cX8_statement 41 = .ok (.aload_n 0, 1) := by decide +kernel
theorem dX8_statement_42 : decode cX8_statement 42 = .ok (.getfield 30, 3) := by decide +kernel
theorem dX8_statement_45 : decode cX8_statement 45 = .ok (.iload_n 1, 1) := by decide +kernel
theorem dX8_statement_46 : decode cX8_statement 46 = .ok (.invokevirtual 115, 3) := by decide +kernel
theorem dX8_statement_49 : decode cX8_statement 49 = .ok (.checkcast 73, 3) := by decide +kernel
theorem dX8_statement_52 : decode cX8_statement 52 = .ok (.getfield 97, 3) := by decide +kernel
theorem dX8_statement_55 : decode cX8_statement 55 = .ok (.iload_n 2, 1) := by decide +kernel
theorem dX8_statement_56 : decode cX8_statement 56 = .ok (.aaload, 1) := by decide +kernel
theorem dX8_statement_57 : decode cX8_statement 57 = .ok (.getfield 169, 3) := by decide +kernel
theorem dX8_statement_60 : decode cX8_statement 60 = .ok (.iload_n 3, 1) := by decide +kernel
theorem dX8_statement_61 : decode cX8_statement 61 = .ok (.iaload, 1) := by decide +kernel
theorem dX8_statement_62 : decode cX8_statement 62 = .ok (.goto 4, 3) := by decide +kernel
