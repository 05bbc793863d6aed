set_option maxRecDepth 20000 in
theorem ggX5_digest_X5_counted : GoodIn wsX5_digest wsX5_counted := goodIn_r _ [11, 4, 12, 13, 14, 15, 10, 16, 17, 18, 19, 20, 21, 22, 23, 24, 25, 26, 27, 28, 29, 30, 31, 32, 33, 34, 35, 36, 37, 38, 39, 40, 41, 42, 43, 44, 45, 46, 47, 48, 49, 50, 51, 52, 53, 54, 55, 56, 57, 58, 59, 60, 116, 117, 118, 119, 120, 121, 122, 123, 124, 125, 126, 127, 128, 129, 130] (by decide +kernel) (by decide +kernel)
set_option maxRecDepth 20000 in
theorem gX5_digest_X5_counted : GoodIn wsX5_digest (wsV RX5 166 RX5 yX5_counted wsX5_counted) := goodIn_app (goodIn_of _ (by decide +kernel)) ggX5_digest_X5_counted
set_option maxRecDepth 20000 in
theorem ggX5_digest_X5_ofBook : GoodIn wsX5_digest wsX5_ofBook := goodIn_r _ [64, 4, 21, 65, 66, 67, 10, 68, 27, 28, 29, 30, 31, 32, 33, 34, 35, 69, 70, 71, 17, 18, 19, 20, 22, 23, 24, 25, 26, 36, 37, 38, 39, 116, 117, 118, 119, 120, 121, 122, 123, 124, 125, 126, 127, 128, 129, 130] (by decide +kernel) (by decide +kernel)
set_option maxRecDepth 20000 in
theorem gX5_digest_X5_ofBook : GoodIn wsX5_digest (wsV RX5 149 RX5 yX5_ofBook wsX5_ofBook) := goodIn_app (goodIn_of _ (by decide +kernel)) ggX5_digest_X5_ofBook
set_option maxRecDepth 20000 in
theorem ggX5_digest_X5_stands : GoodIn wsX5_digest wsX5_stands := goodIn_r _ [75, 4, 22, 48, 44, 45, 46, 10, 47, 49, 50, 51, 52, 23, 24, 25, 26, 27, 28, 29, 30, 31, 32, 33, 34, 35, 53, 54, 55, 56, 76, 77, 78, 79, 69, 70, 71, 116, 117, 118, 119, 120, 121, 122, 123, 124, 125, 126, 127, 128, 129, 130] (by decide +kernel) (by decide +kernel)
set_option maxRecDepth 20000 in
theorem gX5_digest_X5_stands : GoodIn wsX5_digest (wsV RX5 175 RX5 yX5_stands wsX5_stands) := goodIn_app (goodIn_of _ (by decide +kernel)) ggX5_digest_X5_stands
set_option maxRecDepth 20000 in
theorem ggX5_digest_X5_ordered : GoodIn wsX5_digest wsX5_ordered := goodIn_r _ [83, 4, 22, 44, 45, 46, 10, 47, 48, 49, 50, 51, 52, 23, 24, 25, 26, 27, 28, 29, 30, 31, 32, 33, 34, 35, 53, 54, 55, 56, 116, 117, 118, 119, 120, 121, 122, 123, 124, 125, 126, 127, 128, 129, 130] (by decide +kernel) (by decide +kernel)
set_option maxRecDepth 20000 in
theorem gX5_digest_X5_ordered : GoodIn wsX5_digest (wsV RX5 169 RX5 yX5_ordered wsX5_ordered) := goodIn_app (goodIn_of _ (by decide +kernel)) ggX5_digest_X5_ordered
set_option maxRecDepth 20000 in
theorem ggX5_digest_X5_leftOut : GoodIn wsX5_digest wsX5_leftOut := goodIn_r _ [87, 4, 48, 49, 50, 51, 10, 52, 23, 24, 25, 26, 22, 27, 28, 29, 30, 31, 32, 33, 34, 35, 53, 54, 55, 56, 69, 70, 71, 116, 117, 118, 119, 120, 121, 122, 123, 124, 125, 126, 127, 128, 129, 130] (by decide +kernel) (by decide +kernel)
set_option maxRecDepth 20000 in
theorem gX5_digest_X5_leftOut : GoodIn wsX5_digest (wsV RX5 178 RX5 yX5_leftOut wsX5_leftOut) := goodIn_app (goodIn_of _ (by decide +kernel)) ggX5_digest_X5_leftOut
set_option maxRecDepth 20000 in
theorem ggX5_digest_X5_ones : GoodIn wsX5_digest wsX5_ones := goodIn_r _ [71] (by decide +kernel) (by decide +kernel)
set_option maxRecDepth 20000 in
theorem gX5_digest_X5_ones : GoodIn wsX5_digest (va_wsS RX5 146 yX5_ones wsX5_ones) := goodIn_app (goodIn_of _ (by decide +kernel)) ggX5_digest_X5_ones
set_option maxRecDepth 20000 in
theorem ggX5_digest_X5_more : GoodIn wsX5_digest wsX5_more := goodIn_r _ [91, 4, 92, 93, 94, 10, 95, 44, 45, 46, 47, 48, 49, 50, 51, 52, 23, 24, 25, 26, 22, 27, 28, 29, 30, 31, 32, 33, 34, 35, 53, 54, 55, 56, 116, 117, 118, 119, 120, 121, 122, 123, 124, 125, 126, 127, 128, 129, 130] (by decide +kernel) (by decide +kernel)
set_option maxRecDepth 20000 in
theorem gX5_digest_X5_more : GoodIn wsX5_digest (wsV RX5 182 RX5 yX5_more wsX5_more) := goodIn_app (goodIn_of _ (by decide +kernel)) ggX5_digest_X5_more
set_option maxRecDepth 20000 in
theorem ggX5_digest_X5_byYear : GoodIn wsX5_digest wsX5_byYear := goodIn_r _ [99, 4, 92, 93, 94, 10, 95, 44, 45, 46, 47, 48, 49, 50, 51, 52, 23, 24, 25, 26, 22, 27, 28, 29, 30, 31, 32, 33, 34, 35, 53, 54, 55, 56, 13, 14, 15, 16, 17, 18, 19, 20, 21, 36, 37, 38, 39, 116, 117, 118, 119, 120, 121, 122, 123, 124, 125, 126, 127, 128, 129, 130] (by decide +kernel) (by decide +kernel)
set_option maxRecDepth 20000 in
theorem gX5_digest_X5_byYear : GoodIn wsX5_digest (wsV RX5 185 RX5 yX5_byYear wsX5_byYear) := goodIn_app (goodIn_of _ (by decide +kernel)) ggX5_digest_X5_byYear
set_option maxRecDepth 20000 in
theorem ggX5_digest_X5_share : GoodIn wsX5_digest wsX5_share := goodIn_r _ [103, 4, 13, 14, 15, 10, 16, 17, 18, 19, 20, 21, 22, 23, 24, 25, 26, 27, 28, 29, 30, 31, 32, 33, 34, 35, 36, 37, 38, 39, 116, 117, 118, 119, 120, 121, 122, 123, 124, 125, 126, 127, 128, 129, 130] (by decide +kernel) (by decide +kernel)
set_option maxRecDepth 20000 in
theorem gX5_digest_X5_share : GoodIn wsX5_digest (wsV RX5 189 RX5 yX5_share wsX5_share) := goodIn_app (goodIn_of _ (by decide +kernel)) ggX5_digest_X5_share
set_option maxRecDepth 20000 in
theorem ggX5_digest_Jxe99ae_doubleToLongBits_ccdee : GoodIn wsX5_digest wsJxe99ae_doubleToLongBits_ccdee := goodIn_r _ [107, 108, 109, 110, 111, 112, 113, 114, 106, 115] (by decide +kernel) (by decide +kernel)
set_option maxRecDepth 20000 in
theorem gX5_digest_Jxe99ae_doubleToLongBits_ccdee : GoodIn wsX5_digest (va_wsS RX5 197 yJxe99ae_doubleToLongBits_ccdee wsJxe99ae_doubleToLongBits_ccdee) := goodIn_app (goodIn_of _ (by decide +kernel)) ggX5_digest_Jxe99ae_doubleToLongBits_ccdee
theorem dX5_digest_0 : decode cX5_digest 0 = .ok (.aload_n 0, 1) := by decide +kernel
theorem dX5_digest_1 : decode cX5_digest 1 = .ok (.iconst 0, 1) := by decide +kernel
theorem dX5_digest_2 : decode cX5_digest 2 = .ok (.putfield 38, 3) := by decide +kernel
theorem dX5_digest_5 : decode cX5_digest 5 = .ok (.ldc2_w 193, 3) := by decide +kernel
theorem dX5_digest_8 : decode cX5_digest 8 = .ok (.lstore_n 1, 1) := by decide +kernel
theorem dX5_digest_9 : decode cX5_digest 9 = .ok (.iconst 0, 1) := by decide +kernel
theorem dX5_digest_10 : decode cX5_digest 10 = .ok (.istore_n 3, 1) := by decide +kernel
theorem dX5_digest_11 : decode cX5_digest 11 = .ok (.iload_n 3, 1) := by decide +kernel
theorem dX5_digest_12 : decode cX5_digest 12 = .ok (.bipush 10, 2) := by decide +kernel
theorem dX5_digest_14 : decode cX5_digest 14 = .ok (.if_icmp .ge 22, 3) := by decide +kernel
theorem dX5_digest_17 : decode cX5_digest 17 = .ok (.ldc2_w 195, 3) := by decide +kernel
theorem dX5_digest_20 : decode cX5_digest 20 = .ok (.lload_n 1, 1) := by decide +kernel
theorem dX5_digest_21 : decode cX5_digest 21 = .ok (.lmul, 1) := by decide +kernel
theorem dX5_digest_22 : decode cX5_digest 22 = .ok (.aload_n 0, 1) := by decide +kernel
theorem dX5_digest_23 : decode cX5_digest 23 = .ok (.iload_n 3, 1) := by decide +kernel
theorem dX5_digest_24 : decode cX5_digest 24 = .ok (.invokevirtual 166, 3) := by decide +kernel
theorem dX5_digest_27 : decode cX5_digest 27 = .ok (.i2l, 1) := by decide +kernel
theorem dX5_digest_28 : decode cX5_digest 28 = .ok (.ladd, 1) := by decide +kernel
theorem dX5_digest_29 : decode cX5_digest 29 = .ok (.lstore_n 1, 1) := by decide +kernel
theorem dX5_digest_30 : decode cX5_digest 30 = .ok (.iinc 3 1, 3) := by decide +kernel
theorem dX5_digest_33 : decode cX5_digest 33 = .ok (.goto (-22), 3) := by decide +kernel
theorem dX5_digest_36 : decode cX5_digest 36 = .ok (.iconst 0, 1) := by decide +kernel
theorem dX5_digest_37 : decode cX5_digest 37 = .ok (.istore_n 3, 1) := by decide +kernel
theorem dX5_digest_38 : decode cX5_digest 38 = .ok (.iload_n 3, 1) := by decide +kernel
theorem dX5_digest_39 : decode cX5_digest 39 = .ok (.aload_n 0, 1) := by decide +kernel
theorem dX5_digest_40 : decode cX5_digest 40 = .ok (.getfield 7, 3) := by decide +kernel
theorem dX5_digest_43 : decode cX5_digest 43 = .ok (.bipush 40, 2) := by decide +kernel
theorem dX5_digest_45 : decode cX5_digest 45 = .ok (.iaload, 1) := by decide +kernel
theorem dX5_digest_46 : decode cX5_digest 46 = .ok (.if_icmp .ge 70, 3) := by decide +kernel
theorem dX5_digest_49 : decode cX5_digest 49 = .ok (.iconst 0, 1) := by decide +kernel
theorem dX5_digest_50 : decode cX5_digest 50 = .ok (.istore 4, 2) := by decide +kernel
theorem dX5_digest_52 : decode cX5_digest 52 = .ok (.iload 4, 2) := by decide +kernel
theorem dX5_digest_54 : decode cX5_digest 54 = .ok (.bipush 11, 2) := by decide +kernel
theorem dX5_digest_56 : decode cX5_digest 56 = .ok (.if_icmp .ge 24, 3) := by decide +kernel
theorem dX5_digest_59 : decode cX5_digest 59 = .ok (.ldc2_w 195, 3) := by decide +kernel
theorem dX5_digest_62 : decode cX5_digest 62 = .ok (.lload_n 1, 1) := by decide +kernel
theorem dX5_digest_63 : decode cX5_digest 63 = .ok (.lmul, 1) := by decide +kernel
theorem dX5_digest_64 : decode cX5_digest 64 = .ok (.aload_n 0, 1) := by decide +kernel
theorem dX5_digest_65 : decode cX5_digest 65 = .ok (.iload_n 3, 1) := by decide +kernel
theorem dX5_digest_66 : decode cX5_digest 66 = .ok (.iload 4, 2) := by decide +kernel
theorem dX5_digest_68 : decode cX5_digest 68 = .ok (.invokevirtual 149, 3) := by decide +kernel
theorem dX5_digest_71 : decode cX5_digest 71 = .ok (.i2l, 1) := by decide +kernel
theorem dX5_digest_72 : decode cX5_digest 72 = .ok (.ladd, 1) := by decide +kernel
theorem dX5_digest_73 : decode cX5_digest 73 = .ok (.lstore_n 1, 1) := by decide +kernel
theorem dX5_digest_74 : decode cX5_digest 74 = .ok (.iinc 4 1, 3) := by decide +kernel
theorem dX5_digest_77 : decode cX5_digest 77 = .ok (.goto (-25), 3) := by decide +kernel
theorem dX5_digest_80 : decode cX5_digest 80 = .ok (.iconst 0, 1) := by decide +kernel
theorem dX5_digest_81 : decode cX5_digest 81 = .ok (.istore 4, 2) := by decide +kernel
theorem dX5_digest_83 : decode cX5_digest 83 = .ok (.iload 4, 2) := by decide +kernel
theorem dX5_digest_85 : decode cX5_digest 85 = .ok (.iconst 3, 1) := by decide +kernel
theorem dX5_digest_86 : decode cX5_digest 86 = .ok (.if_icmp .ge 24, 3) := by decide +kernel
theorem dX5_digest_89 : decode cX5_digest 89 = .ok (.ldc2_w 195, 3) := by decide +kernel
theorem dX5_digest_92 : decode cX5_digest 92 = .ok (.lload_n 1, 1) := by decide +kernel
theorem dX5_digest_93 : decode cX5_digest 93 = .ok (.lmul, 1) := by decide +kernel
theorem dX5_digest_94 : decode cX5_digest 94 = .ok (.aload_n 0, 1) := by decide +kernel
theorem dX5_digest_95 : decode cX5_digest 95 = .ok (.iload_n 3, 1) := by decide +kernel
theorem dX5_digest_96 : decode cX5_digest 96 = .ok (.iload 4, 2) := by decide +kernel
theorem dX5_digest_98 : decode cX5_digest 98 = .ok (.invokevirtual 175, 3) := by decide +kernel
theorem dX5_digest_101 : decode cX5_digest 101 = .ok (.i2l, 1) := by decide +kernel
theorem dX5_digest_102 : decode cX5_digest 102 = .ok (.ladd, 1) := by decide +kernel
theorem dX5_digest_103 : decode cX5_digest 103 = .ok (.lstore_n 1, 1) := by decide +kernel
theorem dX5_digest_104 : decode cX5_digest 104 = .ok (.iinc 4 1, 3) := by decide +kernel
theorem dX5_digest_107 : decode cX5_digest 107 = .ok (.goto (-24), 3) := by decide +kernel
theorem dX5_digest_110 : decode cX5_digest 110 = .ok (.iinc 3 1, 3) := by decide +kernel
theorem dX5_digest_113 : decode cX5_digest 113 = .ok (.goto (-75), 3) := by decide +kernel
theorem dX5_digest_116 : decode cX5_digest 116 = .ok (.iconst 0, 1) := by decide +kernel
theorem dX5_digest_117 : decode cX5_digest 117 = .ok (.istore_n 3, 1) := by decide +kernel
theorem dX5_digest_118 : decode cX5_digest 118 = .ok (.iload_n 3, 1) := by decide +kernel
theorem dX5_digest_119 : decode cX5_digest 119 = .ok (.aload_n 0, 1) := by decide +kernel
theorem dX5_digest_120 : decode cX5_digest 120 = .ok (.getfield 7, 3) := by decide +kernel
theorem dX5_digest_123 : decode cX5_digest 123 = .ok (.bipush 40, 2) := by decide +kernel
theorem dX5_digest_125 : decode cX5_digest 125 = .ok (.iaload, 1) := by decide +kernel
theorem dX5_digest_126 : decode cX5_digest 126 = .ok (.if_icmp .ge 22, 3) := by decide +kernel
theorem dX5_digest_129 : decode cX5_digest 129 = .ok (.ldc2_w 195, 3) := by decide +kernel
theorem dX5_digest_132 : decode cX5_digest 132 = .ok (.lload_n 1, 1) := by decide +kernel
theorem dX5_digest_133 : decode cX5_digest 133 = .ok (.lmul, 1) := by decide +kernel
theorem dX5_digest_134 : decode cX5_digest 134 = .ok (.aload_n 0, 1) := by decide +kernel
theorem dX5_digest_135 : decode cX5_digest 135 = .ok (.iload_n 3, 1) := by decide +kernel
theorem dX5_digest_136 : decode cX5_digest 136 = .ok (.invokevirtual 169, 3) := by decide +kernel
theorem dX5_digest_139 : decode cX5_digest 139 = .ok (.i2l, 1) := by decide +kernel
theorem dX5_digest_140 : decode cX5_digest 140 = .ok (.ladd, 1) := by decide +kernel
theorem dX5_digest_141 : decode cX5_digest 141 = .ok (.lstore_n 1, 1) := by decide +kernel
theorem dX5_digest_142 : decode cX5_digest 142 = .ok (.iinc 3 1, 3) := by decide +kernel
theorem dX5_digest_145 : decode cX5_digest 145 = .ok (.goto (-27), 3) := by decide +kernel
theorem dX5_digest_148 : decode cX5_digest 148 = .ok (.aload_n 0, 1) := by decide +kernel
theorem dX5_digest_149 : decode cX5_digest 149 = .ok (.invokevirtual 178, 3) := by decide +kernel
theorem dX5_digest_152 : decode cX5_digest 152 = .ok (.istore_n 3, 1) := by decide +kernel
theorem dX5_digest_153 : decode cX5_digest 153 = .ok (.ldc2_w 195, 3) := by decide +kernel
theorem dX5_digest_156 : decode cX5_digest 156 = .ok (.ldc2_w 195, 3) := by decide +kernel
theorem dX5_digest_159 : decode cX5_digest 159 = .ok (.lload_n 1, 1) := by decide +kernel
theorem dX5_digest_160 : decode cX5_digest 160 = .ok (.lmul, 1) := by decide +kernel
theorem dX5_digest_161 : decode cX5_digest 161 = .ok (.iload_n 3, 1) := by decide +kernel
theorem dX5_digest_162 : decode cX5_digest 162 = .ok (.invokestatic 146, 3) := by decide +kernel
theorem dX5_digest_165 : decode cX5_digest 165 = .ok (.i2l, 1) := by decide +kernel
theorem dX5_digest_166 : decode cX5_digest 166 = .ok (.ladd, 1) := by decide +kernel
theorem dX5_digest_167 : decode cX5_digest 167 = .ok (.lmul, 1) := by decide +kernel
theorem dX5_digest_168 : decode cX5_digest 168 = .ok (.iload_n 3, 1) := by decide +kernel
theorem dX5_digest_169 : decode cX5_digest 169 = .ok (.i2l, 1) := by decide +kernel
theorem dX5_digest_170 : decode cX5_digest 170 = .ok (.ladd, 1) := by decide +kernel
theorem dX5_digest_171 : decode cX5_digest 171 = .ok (.lstore_n 1, 1) := by decide +kernel
theorem dX5_digest_172 : decode cX5_digest 172 = .ok (.iconst 0, 1) := by decide +kernel
theorem dX5_digest_173 : decode cX5_digest 173 = .ok (.istore 4, 2) := by decide +kernel
theorem dX5_digest_175 : decode cX5_digest 175 = .ok (.iload 4, 2) := by decide +kernel
theorem dX5_digest_177 : decode cX5_digest 177 = .ok (.bipush 12, 2) := by decide +kernel
theorem dX5_digest_179 : decode cX5_digest 179 = .ok (.if_icmp .ge 23, 3) := by decide +kernel
theorem dX5_digest_182 : decode cX5_digest 182 = .ok (.ldc2_w 195, 3) := by decide +kernel
theorem dX5_digest_185 : decode cX5_digest 185 = .ok (.lload_n 1, 1) := by decide +kernel
theorem dX5_digest_186 : decode cX5_digest 186 = .ok (.lmul, 1) := by decide +kernel
theorem dX5_digest_187 : decode cX5_digest 187 = .ok (.aload_n 0, 1) := by decide +kernel
theorem dX5_digest_188 : decode cX5_digest 188 = .ok (.iload 4, 2) := by decide +kernel
theorem dX5_digest_190 : decode cX5_digest 190 = .ok (.invokevirtual 182, 3) := by decide +kernel
theorem dX5_digest_193 : decode cX5_digest 193 = .ok (.i2l, 1) := by decide +kernel
theorem dX5_digest_194 : decode cX5_digest 194 = .ok (.ladd, 1) := by decide +kernel
theorem dX5_digest_195 : decode cX5_digest 195 = .ok (.lstore_n 1, 1) := by decide +kernel
theorem dX5_digest_196 : decode cX5_digest 196 = .ok (.iinc 4 1, 3) := by decide +kernel
theorem dX5_digest_199 : decode cX5_digest 199 = .ok (.goto (-24), 3) := by decide +kernel
theorem dX5_digest_202 : decode cX5_digest 202 = .ok (.iconst 0, 1) := by decide +kernel
theorem dX5_digest_203 : decode cX5_digest 203 = .ok (.istore 4, 2) := by decide +kernel
theorem dX5_digest_205 : decode cX5_digest 205 = .ok (.iload 4, 2) := by decide +kernel
theorem dX5_digest_207 : decode cX5_digest 207 = .ok (.iconst 2, 1) := by decide +kernel
theorem dX5_digest_208 : decode cX5_digest 208 = .ok (.if_icmp .ge 37, 3) := by decide +kernel
theorem dX5_digest_211 : decode cX5_digest 211 = .ok (.aload_n 0, 1) := by decide +kernel
theorem dX5_digest_212 : decode cX5_digest 212 = .ok (.getfield 7, 3) := by decide +kernel
theorem dX5_digest_215 : decode cX5_digest 215 = .ok (.bipush 40, 2) := by decide +kernel
theorem dX5_digest_217 : decode cX5_digest 217 = .ok (.iaload, 1) := by decide +kernel
theorem dX5_digest_218 : decode cX5_digest 218 = .ok (.ifCond .le 27, 3) := by decide +kernel
theorem dX5_digest_221 : decode cX5_digest 221 = .ok (.ldc2_w 195, 3) := by decide +kernel
theorem dX5_digest_224 : decode cX5_digest 224 = .ok (.lload_n 1, 1) := by decide +kernel
theorem dX5_digest_225 : decode cX5_digest 225 = .ok (.lmul, 1) := by decide +kernel
theorem dX5_digest_226 : decode cX5_digest 226 = .ok (.aload_n 0, 1) := by decide +kernel
theorem dX5_digest_227 : decode cX5_digest 227 = .ok (.iconst 0, 1) := by decide +kernel
theorem dX5_digest_228 : decode cX5_digest 228 = .ok (.sipush 1700, 3) := by decide +kernel
theorem dX5_digest_231 : decode cX5_digest 231 = .ok (.iload 4, 2) := by decide +kernel
theorem dX5_digest_233 : decode cX5_digest 233 = .ok (.invokevirtual 185, 3) := by decide +kernel
theorem dX5_digest_236 : decode cX5_digest 236 = .ok (.i2l, 1) := by decide +kernel
theorem dX5_digest_237 : decode cX5_digest 237 = .ok (.ladd, 1) := by decide +kernel
theorem dX5_digest_238 : decode cX5_digest 238 = .ok (.lstore_n 1, 1) := by decide +kernel
theorem dX5_digest_239 : decode cX5_digest 239 = .ok (.iinc 4 1, 3) := by decide +kernel
theorem dX5_digest_242 : decode cX5_digest 242 = .ok (.goto (-37), 3) := by decide +kernel
theorem dX5_digest_245 : decode cX5_digest 245 = .ok (.ldc2_w 195, 3) := by decide +kernel
theorem dX5_digest_248 : decode cX5_digest 248 = .ok (.ldc2_w 195, 3) := by decide +kernel
theorem dX5_digest_251 : decode cX5_digest 251 = .ok (.lload_n 1, 1) := by decide +kernel
theorem dX5_digest_252 : decode cX5_digest 252 = .ok (.lmul, 1) := by decide +kernel
theorem dX5_digest_253 : decode cX5_digest 253 = .ok (.aload_n 0, 1) := by decide +kernel
theorem dX5_digest_254 : decode cX5_digest 254 = .ok (.invokevirtual 189, 3) := by decide +kernel
theorem dX5_digest_257 : decode cX5_digest 257 = .ok (.invokestatic 197, 3) := by decide +kernel
theorem dX5_digest_260 : decode cX5_digest 260 = .ok (.ladd, 1) := by decide +kernel
theorem dX5_digest_261 : decode cX5_digest 261 = .ok (.lmul, 1) := by decide +kernel
theorem dX5_digest_262 : decode cX5_digest 262 = .ok (.aload_n 0, 1) := by decide +kernel
theorem dX5_digest_263 : decode cX5_digest 263 = .ok (.getfield 105, 3) := by decide +kernel
theorem dX5_digest_266 : decode cX5_digest 266 = .ok (.i2l, 1) := by decide +kernel
theorem dX5_digest_267 : decode cX5_digest 267 = .ok (.ladd, 1) := by decide +kernel
theorem dX5_digest_268 : decode cX5_digest 268 = .ok (.lstore_n 1, 1) := by decide +kernel
theorem dX5_digest_269 : decode cX5_digest 269 = .ok (.iconst 0, 1) := by decide +kernel
theorem dX5_digest_270 : decode cX5_digest 270 = .ok (.istore 4, 2) := by decide +kernel
theorem dX5_digest_272 : decode cX5_digest 272 = .ok (.iload 4, 2) := by decide +kernel
theorem dX5_digest_274 : decode cX5_digest 274 = .ok (.aload_n 0, 1) := by decide +kernel
theorem dX5_digest_275 : decode cX5_digest 275 = .ok (.getfield 105, 3) := by decide +kernel
theorem dX5_digest_278 : decode cX5_digest 278 = .ok (.if_icmp .ge 24, 3) := by decide +kernel
theorem dX5_digest_281 : decode cX5_digest 281 = .ok (.ldc2_w 195, 3) := by decide +kernel
theorem dX5_digest_284 : decode cX5_digest 284 = .ok (.lload_n 1, 1) := by decide +kernel
theorem dX5_digest_285 : decode cX5_digest 285 = .ok (.lmul, 1) := by decide +kernel
theorem dX5_digest_286 : decode cX5_digest 286 = .ok (.aload_n 0, 1) := by decide +kernel
theorem dX5_digest_287 : decode cX5_digest 287 = .ok (.getfield 19, 3) := by decide +kernel
theorem dX5_digest_290 : decode cX5_digest 290 = .ok (.iload 4, 2) := by decide +kernel
theorem dX5_digest_292 : decode cX5_digest 292 = .ok (.iaload, 1) := by decide +kernel
theorem dX5_digest_293 : decode cX5_digest 293 = .ok (.i2l, 1) := by decide +kernel
theorem dX5_digest_294 : decode cX5_digest 294 = .ok (.ladd, 1) := by decide +kernel
theorem dX5_digest_295 : decode cX5_digest 295 = .ok (.lstore_n 1, 1) := by decide +kernel
theorem dX5_digest_296 : decode cX5_digest 296 = .ok (.iinc 4 1, 3) := by decide +kernel
theorem dX5_digest_299 : decode cX5_digest 299 = .ok (.goto (-27), 3) := by decide +kernel
theorem dX5_digest_302 : decode cX5_digest 302 = .ok (.lload_n 1, 1) := by decide +kernel
theorem dX5_digest_303 : decode cX5_digest 303 = .ok (.lreturn, 1) := by decide +kernel
theorem dJxe99ae_isNaN_b9ae7_0 : decode cJxe99ae_isNaN_b9ae7 0 = .ok (.dload_n 0, 1) := by decide +kernel
theorem dJxe99ae_isNaN_b9ae7_1 : decode cJxe99ae_isNaN_b9ae7 1 = .ok (.dload_n 0, 1) := by decide +kernel
theorem dJxe99ae_isNaN_b9ae7_2 : decode cJxe99ae_isNaN_b9ae7 2 = .ok (.dcmp .l, 1) := by decide +kernel
theorem dJxe99ae_isNaN_b9ae7_3 : decode cJxe99ae_isNaN_b9ae7 3 = .ok (.ifCond .eq 7, 3) := by decide +kernel
theorem dJxe99ae_isNaN_b9ae7_6 : decode cJxe99ae_isNaN_b9ae7 6 = .ok (.iconst 1, 1) := by decide +kernel
theorem dJxe99ae_isNaN_b9ae7_7 : decode cJxe99ae_isNaN_b9ae7 7 = .ok (.goto 4, 3) := by decide +kernel
theorem dJxe99ae_isNaN_b9ae7_10 : decode cJxe99ae_isNaN_b9ae7 10 = .ok (.iconst 0, 1) := by decide +kernel
theorem dJxe99ae_isNaN_b9ae7_11 : decode cJxe99ae_isNaN_b9ae7 11 = .ok (.ireturn, 1) := by decide +kernel
set_option maxRecDepth 20000 in
theorem ggJxe99ae_doubleToLongBits_ccdee_Jxe99ae_isNaN_b9ae7 : GoodIn wsJxe99ae_doubleToLongBits_ccdee wsJxe99ae_isNaN_b9ae7 := goodIn_r _ [9] (by decide +kernel) (by decide +kernel)
set_option maxRecDepth 20000 in
theorem gJxe99ae_doubleToLongBits_ccdee_Jxe99ae_isNaN_b9ae7 : GoodIn wsJxe99ae_doubleToLongBits_ccdee (va_wsS RJxe99ae 122 yJxe99ae_isNaN_b9ae7 wsJxe99ae_isNaN_b9ae7) := goodIn_app (goodIn_of _ (by decide +kernel)) ggJxe99ae_doubleToLongBits_ccdee_Jxe99ae_isNaN_b9ae7
theorem dJxe99ae_doubleToLongBits_ccdee_0 : decode cJxe99ae_doubleToLongBits_ccdee 0 = .ok (.dload_n 0, 1) := by decide +kernel
theorem dJxe99ae_doubleToLongBits_ccdee_1 : decode cJxe99ae_doubleToLongBits_ccdee 1 = .ok (.invokestatic 122, 3) := by decide +kernel
theorem dJxe99ae_doubleToLongBits_ccdee_4 : decode cJxe99ae_doubleToLongBits_ccdee 4 = .ok (.ifCond .ne 8, 3) := by decide +kernel
theorem dJxe99ae_doubleToLongBits_ccdee_7 : decode cJxe99ae_doubleToLongBits_ccdee 7 = .ok (.dload_n 0, 1) := by decide +kernel
theorem dJxe99ae_doubleToLongBits_ccdee_8 : decode cJxe99ae_doubleToLongBits_ccdee 8 = .ok (.invokestatic 134, 3) := by decide +kernel
theorem dJxe99ae_doubleToLongBits_ccdee_11 : decode cJxe99ae_doubleToLongBits_ccdee 11 = .ok (.lreturn, 1) := by decide +kernel
theorem dJxe99ae_doubleToLongBits_ccdee_12 : decode cJxe99ae_doubleToLongBits_ccdee 12 = .ok (.ldc2_w 137, 3) := by decide +kernel
theorem dJxe99ae_doubleToLongBits_ccdee_15 : decode cJxe99ae_doubleToLongBits_ccdee 15 = .ok (.lreturn, 1) := by decide +kernel
def f_Jxe99ae_isNaN_b9ae7 (p0 : UInt64) : Option (Int32) := (jn (u1 fun (s1 : Int32) => gB s1 (some s1)) (fun K2 => (if (Op.cmpValue (FP.dcmp p0 p0) .l) = 0 then K2 0 else K2 1)))
theorem hd_Jxe99ae_isNaN_b9ae7 : yJxe99ae_isNaN_b9ae7.cls = RJxe99ae ∧ yJxe99ae_isNaN_b9ae7.cls ≠ "java/lang/invoke/MethodHandle" ∧ yJxe99ae_isNaN_b9ae7.cls ≠ "java/lang/invoke/VarHandle" ∧ (parseMethodDescriptor yJxe99ae_isNaN_b9ae7.desc).map (fun d => d.parameters.length) = some 1 := by decide +kernel
set_option maxRecDepth 100000 in
set_option maxHeartbeats 4000000 in
theorem c_Jxe99ae_isNaN_b9ae7 (l : Launch) (D : va_G) (cI cS cL : ClassId) (p0 : UInt64) (rr : Int32) (hc : f_Jxe99ae_isNaN_b9ae7 p0 = some rr) : KM l yJxe99ae_isNaN_b9ae7 wsJxe99ae_isNaN_b9ae7 { frames := 0, cells := 0, slots := 0, locals := 0 } D (tyS cI cS cL) [.double p0] [] (some (.int rr)) (fun w => w = []) 0 0 := by
  refine g_entry (cc := cJxe99ae_isNaN_b9ae7) (nL := 2) (rt := (some .boolean)) (by decide) rfl (Nat.le_of_ble_eq_true rfl) ?_
  intro p e s m args below meth c A (X : GC p s m args c cJxe99ae_isNaN_b9ae7 2 RJxe99ae wsJxe99ae_isNaN_b9ae7 D (tyS cI cS cL) A) hr hlk _ _
  have h := hc
  unfold f_Jxe99ae_isNaN_b9ae7 at h
  refine g_lv (lv' := [(0, .double p0)]) [0] rfl ?_
  refine g_dload_n X (j := 0) dJxe99ae_isNaN_b9ae7_0 rfl ?_
  refine g_dload_n X (j := 0) dJxe99ae_isNaN_b9ae7_1 rfl ?_
  refine g_dcmp X dJxe99ae_isNaN_b9ae7_2 ?_
  refine jn_g h (u1 fun s1 => []) (u1 fun s1 => []) (u1 fun s1 => [.int s1]) 11 ?_ ?_
  · rintro s1 h
    dsimp only [u1] at h ⊢
    obtain ⟨hz, h⟩ := gB_e h
    have h := Option.some.inj h
    subst h
    exact g_zret X hr hlk hz dJxe99ae_isNaN_b9ae7_11 rfl rfl
  · intro K2 hK2 h
    refine g_if_eq (tgt := 10) X h dJxe99ae_isNaN_b9ae7_3 (by decide) (fun h => ?_) (fun h => ?_)
    · refine g_iconst (v := 0) X dJxe99ae_isNaN_b9ae7_10 (by decide) ?_
      refine g_lv (lv' := []) [] rfl ?_
      exact hK2 0 h
    · refine g_iconst (v := 1) X dJxe99ae_isNaN_b9ae7_6 (by decide) ?_
      refine g_goto (tgt := 11) X dJxe99ae_isNaN_b9ae7_7 (by decide) ?_
      refine g_lv (lv' := []) [] rfl ?_
      exact hK2 1 h
def f_Jxe99ae_doubleToLongBits_ccdee (p0 : UInt64) : Option (Int64) := (f_Jxe99ae_isNaN_b9ae7 p0).bind (u1 fun (r1 : Int32) => (if r1 = 0 then some (p0.toInt64) else some 9221120237041090560))
theorem ct_Jxe99ae_doubleToLongBits_ccdee_137 : Jvm.Cond.constantLong RJxe99ae 137 (9221120237041090560) ∈ wsJxe99ae_doubleToLongBits_ccdee := by decide +kernel
theorem mm_Jxe99ae_doubleToLongBits_ccdee_134a : Cond.methodLink RJxe99ae 134 ⟨"java/lang/Double", "doubleToRawLongBits", "(D)J"⟩ ∈ wsJxe99ae_doubleToLongBits_ccdee := by decide +kernel
theorem mm_Jxe99ae_doubleToLongBits_ccdee_134b : Cond.native ⟨"java/lang/Double", "doubleToRawLongBits", "(D)J"⟩ ∈ wsJxe99ae_doubleToLongBits_ccdee := by decide +kernel
theorem mm_Jxe99ae_doubleToLongBits_ccdee_134c : Cond.static ⟨"java/lang/Double", "doubleToRawLongBits", "(D)J"⟩ ∈ wsJxe99ae_doubleToLongBits_ccdee := by decide +kernel
theorem mm_Jxe99ae_doubleToLongBits_ccdee_134d : Cond.initialized "java/lang/Double" ∈ wsJxe99ae_doubleToLongBits_ccdee := by decide +kernel
theorem hd_Jxe99ae_doubleToLongBits_ccdee : yJxe99ae_doubleToLongBits_ccdee.cls = RJxe99ae ∧ yJxe99ae_doubleToLongBits_ccdee.cls ≠ "java/lang/invoke/MethodHandle" ∧ yJxe99ae_doubleToLongBits_ccdee.cls ≠ "java/lang/invoke/VarHandle" ∧ (parseMethodDescriptor yJxe99ae_doubleToLongBits_ccdee.desc).map (fun d => d.parameters.length) = some 1 := by decide +kernel
set_option maxRecDepth 100000 in
set_option maxHeartbeats 4000000 in
theorem c_Jxe99ae_doubleToLongBits_ccdee (l : Launch) (D : va_G) (cI cS cL : ClassId) (p0 : UInt64) (rr : Int64) (hc : f_Jxe99ae_doubleToLongBits_ccdee p0 = some rr) : KM l yJxe99ae_doubleToLongBits_ccdee wsJxe99ae_doubleToLongBits_ccdee { frames := 1, cells := 0, slots := 0, locals := 21 } D (tyS cI cS cL) [.double p0] [] (some (.long rr)) (fun w => w = []) 0 0 := by
  refine g_entry (cc := cJxe99ae_doubleToLongBits_ccdee) (nL := 2) (rt := (some .long)) (by decide) rfl (Nat.le_of_ble_eq_true rfl) ?_
  intro p e s m args below meth c A (X : GC p s m args c cJxe99ae_doubleToLongBits_ccdee 2 RJxe99ae wsJxe99ae_doubleToLongBits_ccdee D (tyS cI cS cL) A) hr hlk _ _
  have h := hc
  unfold f_Jxe99ae_doubleToLongBits_ccdee at h
  refine g_lv (lv' := [(0, .double p0)]) [0] rfl ?_
  refine g_dload_n X (j := 0) dJxe99ae_doubleToLongBits_ccdee_0 rfl ?_
  obtain ⟨r1, hc, h⟩ := bd1 h
  refine g_callS (is := []) (As := [.double p0]) (ws' := []) (st := []) X (c_Jxe99ae_isNaN_b9ae7 l D cI cS cL p0 r1 hc) gJxe99ae_doubleToLongBits_ccdee_Jxe99ae_isNaN_b9ae7 rfl ⟨rfl, rfl⟩ hd_Jxe99ae_isNaN_b9ae7.2 ⟨Nat.le_of_ble_eq_true rfl, Nat.le_of_ble_eq_true rfl⟩ ⟨Nat.zero_le _, Nat.zero_le _⟩ rfl rfl rfl rfl rfl (Nat.le_of_ble_eq_true rfl) rfl dJxe99ae_doubleToLongBits_ccdee_1 ?_
  refine g_if_ne (tgt := 12) X h dJxe99ae_doubleToLongBits_ccdee_4 (by decide) (fun h => ?_) (fun h => ?_)
  · refine g_ldc2 X ct_Jxe99ae_doubleToLongBits_ccdee_137 dJxe99ae_doubleToLongBits_ccdee_12 ?_
    have h := Option.some.inj h
    subst h
    exact g_lret X hr hlk dJxe99ae_doubleToLongBits_ccdee_15 rfl rfl
  · refine g_dload_n X (j := 0) dJxe99ae_doubleToLongBits_ccdee_7 rfl ?_
    refine g_raw X mm_Jxe99ae_doubleToLongBits_ccdee_134a mm_Jxe99ae_doubleToLongBits_ccdee_134b mm_Jxe99ae_doubleToLongBits_ccdee_134c mm_Jxe99ae_doubleToLongBits_ccdee_134d (Nat.le_of_ble_eq_true rfl) (Nat.le_of_ble_eq_true rfl) dJxe99ae_doubleToLongBits_ccdee_8 ?_
    have h := Option.some.inj h
    subst h
    exact g_lret X hr hlk dJxe99ae_doubleToLongBits_ccdee_11 rfl rfl
def f_X5_digest (x0_kept : Int32) (x0_typed : Int32) (x0_thrown : Int32) (f1 : Nat → Int32) (f2 : Nat → Int32) (f3 : Nat → Int32) (f4 : Nat → Int32) (f5 : Nat → Int32) (f6 : Nat → Int32) : Option (Int64 × Int32 × (Nat → Int32) × (Nat → Int32) × (Nat → Int32) × (Nat → Int32)) := (wl (u5 fun (l1_1 : Int64) (l3_2 : Int32) (w3 : Nat → Int32) (w4 : Nat → Int32) (w5 : Nat → Int32) => (if 10 ≤ l3_2 then some (Sum.inr (l1_1, w3, w4, w5)) else (f_X5_counted l3_2 x0_kept f1 w3 w4 w5).bind (u4 fun (r10 : Int32) (o11 : Nat → Int32) (o12 : Nat → Int32) (o13 : Nat → Int32) => some (Sum.inl ((((31 : Int64) * l1_1) + ((r10 : Int32)).toInt64), (l3_2 + 1), o11, o12, o13))))) 9999 (3203, 0, f4, f5, f6)).bind (u4 fun (l1_6 : Int64) (w7 : Nat → Int32) (w8 : Nat → Int32) (w9 : Nat → Int32) => (wl (u5 fun (l1_14 : Int64) (l3_15 : Int32) (w16 : Nat → Int32) (w17 : Nat → Int32) (w18 : Nat → Int32) => (rdA f1 41 40).bind (fun v23 => (if v23 ≤ l3_15 then some (Sum.inr (l1_14, w16, w17, w18)) else (wl (u4 fun (l1_24 : Int64) (l4_25 : Int32) (w26 : Nat → Int32) (w27 : Nat → Int32) => (if 11 ≤ l4_25 then some (Sum.inr (l1_24, w26, w27)) else (f_X5_ofBook l3_15 l4_25 f1 w26 w27).bind (u3 fun (r31 : Int32) (o32 : Nat → Int32) (o33 : Nat → Int32) => some (Sum.inl ((((31 : Int64) * l1_24) + ((r31 : Int32)).toInt64), (l4_25 + 1), o32, o33))))) 9999 (l1_14, 0, w16, w18)).bind (u3 fun (l1_28 : Int64) (w29 : Nat → Int32) (w30 : Nat → Int32) => (wl (u4 fun (l1_34 : Int64) (l4_35 : Int32) (w36 : Nat → Int32) (w37 : Nat → Int32) => (if 3 ≤ l4_35 then some (Sum.inr (l1_34, w36, w37)) else (f_X5_stands l3_15 l4_35 f1 w36 w37).bind (u3 fun (r41 : Int32) (o42 : Nat → Int32) (o43 : Nat → Int32) => some (Sum.inl ((((31 : Int64) * l1_34) + ((r41 : Int32)).toInt64), (l4_35 + 1), o42, o43))))) 9999 (l1_28, 0, w29, w17)).bind (u3 fun (l1_38 : Int64) (w39 : Nat → Int32) (w40 : Nat → Int32) => some (Sum.inl (l1_38, (l3_15 + 1), w39, w40, w30))))))) 9999 (l1_6, 0, w7, w8, w9)).bind (u4 fun (l1_19 : Int64) (w20 : Nat → Int32) (w21 : Nat → Int32) (w22 : Nat → Int32) => (wl (u4 fun (l1_44 : Int64) (l3_45 : Int32) (w46 : Nat → Int32) (w47 : Nat → Int32) => (rdA f1 41 40).bind (fun v51 => (if v51 ≤ l3_45 then some (Sum.inr (l1_44, w46, w47)) else (f_X5_ordered l3_45 f1 w46 w47).bind (u3 fun (r52 : Int32) (o53 : Nat → Int32) (o54 : Nat → Int32) => some (Sum.inl ((((31 : Int64) * l1_44) + ((r52 : Int32)).toInt64), (l3_45 + 1), o53, o54)))))) 9999 (l1_19, 0, w20, w21)).bind (u3 fun (l1_48 : Int64) (w49 : Nat → Int32) (w50 : Nat → Int32) => (f_X5_leftOut f1 w49 w50).bind (u3 fun (r55 : Int32) (o56 : Nat → Int32) (o57 : Nat → Int32) => (f_X5_ones r55).bind (u1 fun (r58 : Int32) => (wl (u5 fun (l1_59 : Int64) (l4_60 : Int32) (w61 : Nat → Int32) (w62 : Nat → Int32) (w63 : Nat → Int32) => (if 12 ≤ l4_60 then some (Sum.inr (l1_59, w61, w62, w63)) else (f_X5_more l4_60 f1 w61 w62 w63).bind (u4 fun (r68 : Int32) (o69 : Nat → Int32) (o70 : Nat → Int32) (o71 : Nat → Int32) => some (Sum.inl ((((31 : Int64) * l1_59) + ((r68 : Int32)).toInt64), (l4_60 + 1), o69, o70, o71))))) 9999 ((((31 : Int64) * (((31 : Int64) * l1_48) + ((r58 : Int32)).toInt64)) + ((r55 : Int32)).toInt64), 0, f2, o56, o57)).bind (u4 fun (l1_64 : Int64) (w65 : Nat → Int32) (w66 : Nat → Int32) (w67 : Nat → Int32) => (wl (u6 fun (l1_72 : Int64) (l4_73 : Int32) (w74 : Nat → Int32) (w75 : Nat → Int32) (w76 : Nat → Int32) (w77 : Nat → Int32) => (if 2 ≤ l4_73 then some (Sum.inr (l1_72, w74, w75, w76, w77)) else (rdA f1 41 40).bind (fun v83 => (if v83 ≤ 0 then some (Sum.inr (l1_72, w74, w75, w76, w77)) else (f_X5_byYear 0 1700 l4_73 f1 w74 w75 w76 w77).bind (u5 fun (r84 : Int32) (o85 : Nat → Int32) (o86 : Nat → Int32) (o87 : Nat → Int32) (o88 : Nat → Int32) => some (Sum.inl ((((31 : Int64) * l1_72) + ((r84 : Int32)).toInt64), (l4_73 + 1), o85, o86, o87, o88))))))) 9999 (l1_64, 0, w65, w66, w67, w22)).bind (u5 fun (l1_78 : Int64) (w79 : Nat → Int32) (w80 : Nat → Int32) (w81 : Nat → Int32) (w82 : Nat → Int32) => (f_X5_share f1 w80 w82).bind (u3 fun (r89 : UInt64) (o90 : Nat → Int32) (o91 : Nat → Int32) => (f_Jxe99ae_doubleToLongBits_ccdee r89).bind (u1 fun (r92 : Int64) => (wl (u2 fun (l1_93 : Int64) (l4_94 : Int32) => (if x0_typed ≤ l4_94 then some (Sum.inr l1_93) else (rdA f3 60 l4_94).bind (fun v96 => some (Sum.inl ((((31 : Int64) * l1_93) + ((v96 : Int32)).toInt64), (l4_94 + 1)))))) 9999 ((((31 : Int64) * (((31 : Int64) * l1_78) + r92)) + ((x0_typed : Int32)).toInt64), 0)).bind (u1 fun (l1_95 : Int64) => some (l1_95, 0, w79, o90, w81, o91)))))))))))
theorem in_X5_digest_X5 : ∀ w ∈ wsX50, w ∈ wsX5_digest := by decide +kernel
theorem fl_X5_digest_38 : Cond.fieldLink RX5 38 "ColophonHuntModel" "thrown" "I" ∈ wsX5_digest := by decide +kernel
theorem ct_X5_digest_193 : Jvm.Cond.constantLong RX5 193 (3203) ∈ wsX5_digest := by decide +kernel
theorem ct_X5_digest_195 : Jvm.Cond.constantLong RX5 195 (31) ∈ wsX5_digest := by decide +kernel
theorem fl_X5_digest_7 : Cond.fieldLink RX5 7 "ColophonHuntModel" "now" "[I" ∈ wsX5_digest := by decide +kernel
theorem fl_X5_digest_105 : Cond.fieldLink RX5 105 "ColophonHuntModel" "typed" "I" ∈ wsX5_digest := by decide +kernel
theorem fl_X5_digest_19 : Cond.fieldLink RX5 19 "ColophonHuntModel" "text" "[I" ∈ wsX5_digest := by decide +kernel
theorem hd_X5_digest : yX5_digest.cls = RX5 ∧ yX5_digest.cls ≠ "java/lang/invoke/MethodHandle" ∧ yX5_digest.cls ≠ "java/lang/invoke/VarHandle" ∧ (parseMethodDescriptor yX5_digest.desc).map (fun d => d.parameters.length) = some 0 := by decide +kernel
set_option maxRecDepth 100000 in
set_option maxHeartbeats 4000000 in
theorem c_X5_digest (l : Launch) (D : va_G) (cI cS cL : ClassId) (a0 : Nat) (a1 : Nat) (a2 : Nat) (a3 : Nat) (a4 : Nat) (a5 : Nat) (a6 : Nat) (b0_2 : Nat) (b0_10 : Nat) (x0_kept : Int32) (x0_typed : Int32) (x0_thrown : Int32) (x0_at : Int32) (x0_isFault : Int32) (x0_value : Int32) (x0_tolds : Int32) (f1 : Nat → Int32) (f2 : Nat → Int32) (f3 : Nat → Int32) (f4 : Nat → Int32) (f5 : Nat → Int32) (f6 : Nat → Int32) (rr : Int64) (y0 : Int32) (y1 : Nat → Int32) (y2 : Nat → Int32) (y3 : Nat → Int32) (y4 : Nat → Int32) (hc : f_X5_digest x0_kept x0_typed x0_thrown f1 f2 f3 f4 f5 f6 = some (rr, y0, y1, y2, y3, y4)) : KM l yX5_digest wsX5_digest { frames := 6, cells := 0, slots := 0, locals := 140 } D (tyS cI cS cL) [.ref a0] [(a0, .inr (5, [.ref a1, .ref a2, .ref b0_2, .int x0_kept, .ref a3, .int x0_typed, .int x0_thrown, .int x0_at, .int x0_isFault, .int x0_value, .ref b0_10, .int x0_tolds, .ref a4, .ref a5, .ref a6])), (a1, .inl (cI, 41, .inl f1)), (a2, .inl (cI, 41, .inl f2)), (a3, .inl (cI, 60, .inl f3)), (a4, .inl (cI, 10, .inl f4)), (a5, .inl (cI, 1024, .inl f5)), (a6, .inl (cI, 20, .inl f6))] (some (.long rr)) (fun w => w = [(a0, .inr (5, [.ref a1, .ref a2, .ref b0_2, .int x0_kept, .ref a3, .int x0_typed, .int y0, .int x0_at, .int x0_isFault, .int x0_value, .ref b0_10, .int x0_tolds, .ref a4, .ref a5, .ref a6])), (a1, .inl (cI, 41, .inl f1)), (a2, .inl (cI, 41, .inl y1)), (a3, .inl (cI, 60, .inl f3)), (a4, .inl (cI, 10, .inl y2)), (a5, .inl (cI, 1024, .inl y3)), (a6, .inl (cI, 20, .inl y4))]) 0 0 := by
  refine g_entry (cc := cX5_digest) (nL := 5) (rt := (some .long)) (by decide) rfl (Nat.le_of_ble_eq_true rfl) ?_
  intro p e s m args below meth c A (X : GC p s m args c cX5_digest 5 RX5 wsX5_digest D (tyS cI cS cL) A) hr hlk _ _
  have h := hc
  unfold f_X5_digest at h
  refine g_lv (lv' := [(0, .ref a0)]) [0] rfl ?_
  refine g_aload_n X (j := 0) dX5_digest_0 rfl ?_
  refine g_iconst (v := 0) X dX5_digest_1 (by decide) ?_
  refine g_put (q0 := 0) (k := 6) (ci := 5) (ws' := [(a0, .inr (5, [.ref a1, .ref a2, .ref b0_2, .int x0_kept, .ref a3, .int x0_typed, .int 0, .int x0_at, .int x0_isFault, .int x0_value, .ref b0_10, .int x0_tolds, .ref a4, .ref a5, .ref a6])), (a1, .inl (cI, 41, .inl f1)), (a2, .inl (cI, 41, .inl f2)), (a3, .inl (cI, 60, .inl f3)), (a4, .inl (cI, 10, .inl f4)), (a5, .inl (cI, 1024, .inl f5)), (a6, .inl (cI, 20, .inl f6))]) X tyX5_ok nmX5 in_X5_digest_X5 fl_X5_digest_38 rfl rfl (Nat.le_of_ble_eq_true rfl) rfl rfl rfl (Nat.le_of_ble_eq_true rfl) dX5_digest_2 rfl ?_
  refine g_ldc2 X ct_X5_digest_193 dX5_digest_5 ?_
  refine g_lstore_n (lv' := [(1, .long 3203), (0, .ref a0)]) X dX5_digest_8 rfl (by decide) rfl ?_
  refine g_iconst (v := 0) X dX5_digest_9 (by decide) ?_
  refine g_istore_n (lv' := [(3, .int 0), (1, .long 3203), (0, .ref a0)]) X dX5_digest_10 rfl (by decide) rfl ?_
  refine g_lv (lv' := [(0, .ref a0), (1, .long 3203), (3, .int 0)]) [2, 1, 0] rfl ?_
  refine wl_g1 h (u5 fun l1_1 l3_2 w3 w4 w5 => [(a0, .inr (5, [.ref a1, .ref a2, .ref b0_2, .int x0_kept, .ref a3, .int x0_typed, .int 0, .int x0_at, .int x0_isFault, .int x0_value, .ref b0_10, .int x0_tolds, .ref a4, .ref a5, .ref a6])), (a1, .inl (cI, 41, .inl f1)), (a2, .inl (cI, 41, .inl f2)), (a3, .inl (cI, 60, .inl f3)), (a4, .inl (cI, 10, .inl w3)), (a5, .inl (cI, 1024, .inl w4)), (a6, .inl (cI, 20, .inl w5))]) (u5 fun l1_1 l3_2 w3 w4 w5 => [(0, .ref a0), (1, .long l1_1), (3, .int l3_2)]) rfl rfl (u4 fun l1_6 w7 w8 w9 => [(a0, .inr (5, [.ref a1, .ref a2, .ref b0_2, .int x0_kept, .ref a3, .int x0_typed, .int 0, .int x0_at, .int x0_isFault, .int x0_value, .ref b0_10, .int x0_tolds, .ref a4, .ref a5, .ref a6])), (a1, .inl (cI, 41, .inl f1)), (a2, .inl (cI, 41, .inl f2)), (a3, .inl (cI, 60, .inl f3)), (a4, .inl (cI, 10, .inl w7)), (a5, .inl (cI, 1024, .inl w8)), (a6, .inl (cI, 20, .inl w9))]) (u4 fun l1_6 w7 w8 w9 => [(0, .ref a0), (1, .long l1_6)]) 36 ?_ ?_
  · rintro ⟨l1_6, w7, w8, w9⟩ h
    dsimp only [u4] at h ⊢
    refine g_iconst (v := 0) X dX5_digest_36 (by decide) ?_
    refine g_istore_n (lv' := [(3, .int 0), (0, .ref a0), (1, .long l1_6)]) X dX5_digest_37 rfl (by decide) rfl ?_
    refine g_lv (lv' := [(0, .ref a0), (1, .long l1_6), (3, .int 0)]) [1, 2, 0] rfl ?_
    refine wl_g1 h (u5 fun l1_14 l3_15 w16 w17 w18 => [(a0, .inr (5, [.ref a1, .ref a2, .ref b0_2, .int x0_kept, .ref a3, .int x0_typed, .int 0, .int x0_at, .int x0_isFault, .int x0_value, .ref b0_10, .int x0_tolds, .ref a4, .ref a5, .ref a6])), (a1, .inl (cI, 41, .inl f1)), (a2, .inl (cI, 41, .inl f2)), (a3, .inl (cI, 60, .inl f3)), (a4, .inl (cI, 10, .inl w16)), (a5, .inl (cI, 1024, .inl w17)), (a6, .inl (cI, 20, .inl w18))]) (u5 fun l1_14 l3_15 w16 w17 w18 => [(0, .ref a0), (1, .long l1_14), (3, .int l3_15)]) rfl rfl (u4 fun l1_19 w20 w21 w22 => [(a0, .inr (5, [.ref a1, .ref a2, .ref b0_2, .int x0_kept, .ref a3, .int x0_typed, .int 0, .int x0_at, .int x0_isFault, .int x0_value, .ref b0_10, .int x0_tolds, .ref a4, .ref a5, .ref a6])), (a1, .inl (cI, 41, .inl f1)), (a2, .inl (cI, 41, .inl f2)), (a3, .inl (cI, 60, .inl f3)), (a4, .inl (cI, 10, .inl w20)), (a5, .inl (cI, 1024, .inl w21)), (a6, .inl (cI, 20, .inl w22))]) (u4 fun l1_19 w20 w21 w22 => [(0, .ref a0), (1, .long l1_19)]) 116 ?_ ?_
    · rintro ⟨l1_19, w20, w21, w22⟩ h
      dsimp only [u4] at h ⊢
      refine g_iconst (v := 0) X dX5_digest_116 (by decide) ?_
      refine g_istore_n (lv' := [(3, .int 0), (0, .ref a0), (1, .long l1_19)]) X dX5_digest_117 rfl (by decide) rfl ?_
      refine g_lv (lv' := [(0, .ref a0), (1, .long l1_19), (3, .int 0)]) [1, 2, 0] rfl ?_
      refine wl_g1 h (u4 fun l1_44 l3_45 w46 w47 => [(a0, .inr (5, [.ref a1, .ref a2, .ref b0_2, .int x0_kept, .ref a3, .int x0_typed, .int 0, .int x0_at, .int x0_isFault, .int x0_value, .ref b0_10, .int x0_tolds, .ref a4, .ref a5, .ref a6])), (a1, .inl (cI, 41, .inl f1)), (a2, .inl (cI, 41, .inl f2)), (a3, .inl (cI, 60, .inl f3)), (a4, .inl (cI, 10, .inl w46)), (a5, .inl (cI, 1024, .inl w47)), (a6, .inl (cI, 20, .inl w22))]) (u4 fun l1_44 l3_45 w46 w47 => [(0, .ref a0), (1, .long l1_44), (3, .int l3_45)]) rfl rfl (u3 fun l1_48 w49 w50 => [(a0, .inr (5, [.ref a1, .ref a2, .ref b0_2, .int x0_kept, .ref a3, .int x0_typed, .int 0, .int x0_at, .int x0_isFault, .int x0_value, .ref b0_10, .int x0_tolds, .ref a4, .ref a5, .ref a6])), (a1, .inl (cI, 41, .inl f1)), (a2, .inl (cI, 41, .inl f2)), (a3, .inl (cI, 60, .inl f3)), (a4, .inl (cI, 10, .inl w49)), (a5, .inl (cI, 1024, .inl w50)), (a6, .inl (cI, 20, .inl w22))]) (u3 fun l1_48 w49 w50 => [(0, .ref a0), (1, .long l1_48)]) 148 ?_ ?_
      · rintro ⟨l1_48, w49, w50⟩ h
        dsimp only [u3] at h ⊢
        refine g_aload_n X (j := 0) dX5_digest_148 rfl ?_
        obtain ⟨r55, o56, o57, hc, h⟩ := bd3 h
        refine g_callV (q0 := 0) (ci := 5) (is := [0, 1, 4, 5]) (As := []) (ws' := [(a0, .inr (5, [.ref a1, .ref a2, .ref b0_2, .int x0_kept, .ref a3, .int x0_typed, .int 0, .int x0_at, .int x0_isFault, .int x0_value, .ref b0_10, .int x0_tolds, .ref a4, .ref a5, .ref a6])), (a1, .inl (cI, 41, .inl f1)), (a2, .inl (cI, 41, .inl f2)), (a3, .inl (cI, 60, .inl f3)), (a4, .inl (cI, 10, .inl o56)), (a5, .inl (cI, 1024, .inl o57)), (a6, .inl (cI, 20, .inl w22))]) (st := []) X (c_X5_leftOut l D cI cS cL a0 a1 a4 a5 a2 b0_2 a3 b0_10 a6 x0_kept x0_typed 0 x0_at x0_isFault x0_value x0_tolds f1 w49 w50 r55 o56 o57 hc) gX5_digest_X5_leftOut rfl ⟨rfl, rfl⟩ hd_X5_leftOut ⟨Nat.le_of_ble_eq_true rfl, Nat.le_of_ble_eq_true rfl⟩ ⟨Nat.zero_le _, Nat.zero_le _⟩ rfl rfl rfl rfl rfl rfl rfl (Nat.le_of_ble_eq_true rfl) rfl dX5_digest_149 ?_
        refine g_istore_n (lv' := [(3, .int r55), (0, .ref a0), (1, .long l1_48)]) X dX5_digest_152 rfl (by decide) rfl ?_
        refine g_ldc2 X ct_X5_digest_195 dX5_digest_153 ?_
        refine g_ldc2 X ct_X5_digest_195 dX5_digest_156 ?_
        refine g_lload_n X (j := 2) dX5_digest_159 rfl ?_
        refine g_lmul X dX5_digest_160 ?_
        refine g_iload_n X (j := 0) dX5_digest_161 rfl ?_
        obtain ⟨r58, hc, h⟩ := bd1 h
        refine g_callS (is := []) (As := [.int r55]) (ws' := [(a0, .inr (5, [.ref a1, .ref a2, .ref b0_2, .int x0_kept, .ref a3, .int x0_typed, .int 0, .int x0_at, .int x0_isFault, .int x0_value, .ref b0_10, .int x0_tolds, .ref a4, .ref a5, .ref a6])), (a1, .inl (cI, 41, .inl f1)), (a2, .inl (cI, 41, .inl f2)), (a3, .inl (cI, 60, .inl f3)), (a4, .inl (cI, 10, .inl o56)), (a5, .inl (cI, 1024, .inl o57)), (a6, .inl (cI, 20, .inl w22))]) (st := [.long ((31 : Int64) * l1_48), .long 31]) X (c_X5_ones l D cI cS cL r55 r58 hc) gX5_digest_X5_ones rfl ⟨rfl, rfl⟩ hd_X5_ones.2 ⟨Nat.le_of_ble_eq_true rfl, Nat.le_of_ble_eq_true rfl⟩ ⟨Nat.zero_le _, Nat.zero_le _⟩ rfl rfl rfl rfl rfl (Nat.le_of_ble_eq_true rfl) rfl dX5_digest_162 ?_
        refine g_i2l X dX5_digest_165 ?_
        refine g_ladd X dX5_digest_166 ?_
        refine g_lmul X dX5_digest_167 ?_
        refine g_iload_n X (j := 0) dX5_digest_168 rfl ?_
        refine g_i2l X dX5_digest_169 ?_
        refine g_ladd X dX5_digest_170 ?_
        refine g_lstore_n (lv' := [(1, .long (((31 : Int64) * (((31 : Int64) * l1_48) + ((r58 : Int32)).toInt64)) + ((r55 : Int32)).toInt64)), (3, .int r55), (0, .ref a0)]) X dX5_digest_171 rfl (by decide) rfl ?_
        refine g_iconst (v := 0) X dX5_digest_172 (by decide) ?_
        refine g_istore (lv' := [(4, .int 0), (1, .long (((31 : Int64) * (((31 : Int64) * l1_48) + ((r58 : Int32)).toInt64)) + ((r55 : Int32)).toInt64)), (3, .int r55), (0, .ref a0)]) X dX5_digest_173 (by decide) rfl ?_
        refine g_lv (lv' := [(0, .ref a0), (1, .long (((31 : Int64) * (((31 : Int64) * l1_48) + ((r58 : Int32)).toInt64)) + ((r55 : Int32)).toInt64)), (4, .int 0)]) [3, 1, 0] rfl ?_
        refine wl_g1 h (u5 fun l1_59 l4_60 w61 w62 w63 => [(a0, .inr (5, [.ref a1, .ref a2, .ref b0_2, .int x0_kept, .ref a3, .int x0_typed, .int 0, .int x0_at, .int x0_isFault, .int x0_value, .ref b0_10, .int x0_tolds, .ref a4, .ref a5, .ref a6])), (a1, .inl (cI, 41, .inl f1)), (a2, .inl (cI, 41, .inl w61)), (a3, .inl (cI, 60, .inl f3)), (a4, .inl (cI, 10, .inl w62)), (a5, .inl (cI, 1024, .inl w63)), (a6, .inl (cI, 20, .inl w22))]) (u5 fun l1_59 l4_60 w61 w62 w63 => [(0, .ref a0), (1, .long l1_59), (4, .int l4_60)]) rfl rfl (u4 fun l1_64 w65 w66 w67 => [(a0, .inr (5, [.ref a1, .ref a2, .ref b0_2, .int x0_kept, .ref a3, .int x0_typed, .int 0, .int x0_at, .int x0_isFault, .int x0_value, .ref b0_10, .int x0_tolds, .ref a4, .ref a5, .ref a6])), (a1, .inl (cI, 41, .inl f1)), (a2, .inl (cI, 41, .inl w65)), (a3, .inl (cI, 60, .inl f3)), (a4, .inl (cI, 10, .inl w66)), (a5, .inl (cI, 1024, .inl w67)), (a6, .inl (cI, 20, .inl w22))]) (u4 fun l1_64 w65 w66 w67 => [(0, .ref a0), (1, .long l1_64)]) 202 ?_ ?_
        · rintro ⟨l1_64, w65, w66, w67⟩ h
          dsimp only [u4] at h ⊢
          refine g_iconst (v := 0) X dX5_digest_202 (by decide) ?_
          refine g_istore (lv' := [(4, .int 0), (0, .ref a0), (1, .long l1_64)]) X dX5_digest_203 (by decide) rfl ?_
          refine g_lv (lv' := [(0, .ref a0), (1, .long l1_64), (4, .int 0)]) [1, 2, 0] rfl ?_
          refine wl_g1 h (u6 fun l1_72 l4_73 w74 w75 w76 w77 => [(a0, .inr (5, [.ref a1, .ref a2, .ref b0_2, .int x0_kept, .ref a3, .int x0_typed, .int 0, .int x0_at, .int x0_isFault, .int x0_value, .ref b0_10, .int x0_tolds, .ref a4, .ref a5, .ref a6])), (a1, .inl (cI, 41, .inl f1)), (a2, .inl (cI, 41, .inl w74)), (a3, .inl (cI, 60, .inl f3)), (a4, .inl (cI, 10, .inl w75)), (a5, .inl (cI, 1024, .inl w76)), (a6, .inl (cI, 20, .inl w77))]) (u6 fun l1_72 l4_73 w74 w75 w76 w77 => [(0, .ref a0), (1, .long l1_72), (4, .int l4_73)]) rfl rfl (u5 fun l1_78 w79 w80 w81 w82 => [(a0, .inr (5, [.ref a1, .ref a2, .ref b0_2, .int x0_kept, .ref a3, .int x0_typed, .int 0, .int x0_at, .int x0_isFault, .int x0_value, .ref b0_10, .int x0_tolds, .ref a4, .ref a5, .ref a6])), (a1, .inl (cI, 41, .inl f1)), (a2, .inl (cI, 41, .inl w79)), (a3, .inl (cI, 60, .inl f3)), (a4, .inl (cI, 10, .inl w80)), (a5, .inl (cI, 1024, .inl w81)), (a6, .inl (cI, 20, .inl w82))]) (u5 fun l1_78 w79 w80 w81 w82 => [(0, .ref a0), (1, .long l1_78)]) 245 ?_ ?_
          · rintro ⟨l1_78, w79, w80, w81, w82⟩ h
            dsimp only [u5] at h ⊢
            refine g_ldc2 X ct_X5_digest_195 dX5_digest_245 ?_
            refine g_ldc2 X ct_X5_digest_195 dX5_digest_248 ?_
            refine g_lload_n X (j := 1) dX5_digest_251 rfl ?_
            refine g_lmul X dX5_digest_252 ?_
            refine g_aload_n X (j := 0) dX5_digest_253 rfl ?_
            obtain ⟨r89, o90, o91, hc, h⟩ := bd3 h
            refine g_callV (q0 := 0) (ci := 5) (is := [0, 1, 4, 6]) (As := []) (ws' := [(a0, .inr (5, [.ref a1, .ref a2, .ref b0_2, .int x0_kept, .ref a3, .int x0_typed, .int 0, .int x0_at, .int x0_isFault, .int x0_value, .ref b0_10, .int x0_tolds, .ref a4, .ref a5, .ref a6])), (a1, .inl (cI, 41, .inl f1)), (a2, .inl (cI, 41, .inl w79)), (a3, .inl (cI, 60, .inl f3)), (a4, .inl (cI, 10, .inl o90)), (a5, .inl (cI, 1024, .inl w81)), (a6, .inl (cI, 20, .inl o91))]) (st := [.long ((31 : Int64) * l1_78), .long 31]) X (c_X5_share l D cI cS cL a0 a1 a4 a6 a2 b0_2 a3 b0_10 a5 x0_kept x0_typed 0 x0_at x0_isFault x0_value x0_tolds f1 w80 w82 r89 o90 o91 hc) gX5_digest_X5_share rfl ⟨rfl, rfl⟩ hd_X5_share ⟨Nat.le_of_ble_eq_true rfl, Nat.le_of_ble_eq_true rfl⟩ ⟨Nat.zero_le _, Nat.zero_le _⟩ rfl rfl rfl rfl rfl rfl rfl (Nat.le_of_ble_eq_true rfl) rfl dX5_digest_254 ?_
            obtain ⟨r92, hc, h⟩ := bd1 h
            refine g_callS (is := []) (As := [.double r89]) (ws' := [(a0, .inr (5, [.ref a1, .ref a2, .ref b0_2, .int x0_kept, .ref a3, .int x0_typed, .int 0, .int x0_at, .int x0_isFault, .int x0_value, .ref b0_10, .int x0_tolds, .ref a4, .ref a5, .ref a6])), (a1, .inl (cI, 41, .inl f1)), (a2, .inl (cI, 41, .inl w79)), (a3, .inl (cI, 60, .inl f3)), (a4, .inl (cI, 10, .inl o90)), (a5, .inl (cI, 1024, .inl w81)), (a6, .inl (cI, 20, .inl o91))]) (st := [.long ((31 : Int64) * l1_78), .long 31]) X (c_Jxe99ae_doubleToLongBits_ccdee l D cI cS cL r89 r92 hc) gX5_digest_Jxe99ae_doubleToLongBits_ccdee rfl ⟨rfl, rfl⟩ hd_Jxe99ae_doubleToLongBits_ccdee.2 ⟨Nat.le_of_ble_eq_true rfl, Nat.le_of_ble_eq_true rfl⟩ ⟨Nat.zero_le _, Nat.zero_le _⟩ rfl rfl rfl rfl rfl (Nat.le_of_ble_eq_true rfl) rfl dX5_digest_257 ?_
            refine g_ladd X dX5_digest_260 ?_
            refine g_lmul X dX5_digest_261 ?_
            refine g_aload_n X (j := 0) dX5_digest_262 rfl ?_
            refine g_get (q0 := 0) (k := 5) (ci := 5) X in_X5_digest_X5 fl_X5_digest_105 rfl rfl (Nat.le_of_ble_eq_true rfl) rfl dX5_digest_263 ?_
            refine g_i2l X dX5_digest_266 ?_
            refine g_ladd X dX5_digest_267 ?_
            refine g_lstore_n (lv' := [(1, .long (((31 : Int64) * (((31 : Int64) * l1_78) + r92)) + ((x0_typed : Int32)).toInt64)), (0, .ref a0)]) X dX5_digest_268 rfl (by decide) rfl ?_
            refine g_iconst (v := 0) X dX5_digest_269 (by decide) ?_
            refine g_istore (lv' := [(4, .int 0), (1, .long (((31 : Int64) * (((31 : Int64) * l1_78) + r92)) + ((x0_typed : Int32)).toInt64)), (0, .ref a0)]) X dX5_digest_270 (by decide) rfl ?_
            refine g_lv (lv' := [(0, .ref a0), (1, .long (((31 : Int64) * (((31 : Int64) * l1_78) + r92)) + ((x0_typed : Int32)).toInt64)), (4, .int 0)]) [2, 1, 0] rfl ?_
            refine wl_g1 h (u2 fun l1_93 l4_94 => [(a0, .inr (5, [.ref a1, .ref a2, .ref b0_2, .int x0_kept, .ref a3, .int x0_typed, .int 0, .int x0_at, .int x0_isFault, .int x0_value, .ref b0_10, .int x0_tolds, .ref a4, .ref a5, .ref a6])), (a1, .inl (cI, 41, .inl f1)), (a2, .inl (cI, 41, .inl w79)), (a3, .inl (cI, 60, .inl f3)), (a4, .inl (cI, 10, .inl o90)), (a5, .inl (cI, 1024, .inl w81)), (a6, .inl (cI, 20, .inl o91))]) (u2 fun l1_93 l4_94 => [(0, .ref a0), (1, .long l1_93), (4, .int l4_94)]) rfl rfl (u1 fun l1_95 => [(a0, .inr (5, [.ref a1, .ref a2, .ref b0_2, .int x0_kept, .ref a3, .int x0_typed, .int 0, .int x0_at, .int x0_isFault, .int x0_value, .ref b0_10, .int x0_tolds, .ref a4, .ref a5, .ref a6])), (a1, .inl (cI, 41, .inl f1)), (a2, .inl (cI, 41, .inl w79)), (a3, .inl (cI, 60, .inl f3)), (a4, .inl (cI, 10, .inl o90)), (a5, .inl (cI, 1024, .inl w81)), (a6, .inl (cI, 20, .inl o91))]) (u1 fun l1_95 => [(1, .long l1_95)]) 302 ?_ ?_
            · rintro l1_95 h
              dsimp only [u1] at h ⊢
              refine g_lload_n X (j := 0) dX5_digest_302 rfl ?_
              have h := Option.some.inj h
              simp only [Prod.mk.injEq] at h
              obtain ⟨rfl, rfl, rfl, rfl, rfl, rfl⟩ := h
              exact g_lret X hr hlk dX5_digest_303 rfl rfl
            · rintro ⟨l1_93, l4_94⟩ o h hI hE
              dsimp only [u2] at h ⊢
              refine g_iload X (j := 2) dX5_digest_272 rfl ?_
              refine g_aload_n X (j := 0) dX5_digest_274 rfl ?_
              refine g_get (q0 := 0) (k := 5) (ci := 5) X in_X5_digest_X5 fl_X5_digest_105 rfl rfl (Nat.le_of_ble_eq_true rfl) rfl dX5_digest_275 ?_
              refine g_icmp_ge (tgt := 302) X h dX5_digest_278 (by decide) (fun h => ?_) (fun h => ?_)
              · refine g_lv (lv' := [(1, .long l1_93)]) [1] rfl ?_
                exact hE l1_93 (Option.some.inj h).symm
              · refine g_ldc2 X ct_X5_digest_195 dX5_digest_281 ?_
                refine g_lload_n X (j := 1) dX5_digest_284 rfl ?_
                refine g_lmul X dX5_digest_285 ?_
                refine g_aload_n X (j := 0) dX5_digest_286 rfl ?_
                refine g_get (q0 := 0) (k := 4) (ci := 5) X in_X5_digest_X5 fl_X5_digest_19 rfl rfl (Nat.le_of_ble_eq_true rfl) rfl dX5_digest_287 ?_
                refine g_iload X (j := 2) dX5_digest_290 rfl ?_
                refine g_iald (q0 := 3) (t0 := 0) X h rfl rfl dX5_digest_292 (fun v96 h => ?_)
                refine g_i2l X dX5_digest_293 ?_
                refine g_ladd X dX5_digest_294 ?_
                refine g_lstore_n (lv' := [(1, .long (((31 : Int64) * l1_93) + ((v96 : Int32)).toInt64)), (0, .ref a0), (4, .int l4_94)]) X dX5_digest_295 rfl (by decide) rfl ?_
                refine g_iinc (j := 2) (lv' := [(4, .int (l4_94 + 1)), (1, .long (((31 : Int64) * l1_93) + ((v96 : Int32)).toInt64)), (0, .ref a0)]) X (l4_94 + 1) dX5_digest_296 rfl rfl (by decide) rfl ?_
                refine g_goto (tgt := 272) X dX5_digest_299 (by decide) ?_
                refine g_lv (lv' := [(0, .ref a0), (1, .long (((31 : Int64) * l1_93) + ((v96 : Int32)).toInt64)), (4, .int (l4_94 + 1))]) [2, 1, 0] rfl ?_
                exact hI ((((31 : Int64) * l1_93) + ((v96 : Int32)).toInt64), (l4_94 + 1)) (Option.some.inj h).symm
          · rintro ⟨l1_72, l4_73, w74, w75, w76, w77⟩ o h hI hE
            dsimp only [u6] at h ⊢
            refine g_iload X (j := 2) dX5_digest_205 rfl ?_
            refine g_iconst (v := 2) X dX5_digest_207 (by decide) ?_
            refine g_icmp_ge (tgt := 245) X h dX5_digest_208 (by decide) (fun h => ?_) (fun h => ?_)
            · refine g_lv (lv' := [(0, .ref a0), (1, .long l1_72)]) [0, 1] rfl ?_
              exact hE (l1_72, w74, w75, w76, w77) (Option.some.inj h).symm
            · refine g_aload_n X (j := 0) dX5_digest_211 rfl ?_
              refine g_get (q0 := 0) (k := 0) (ci := 5) X in_X5_digest_X5 fl_X5_digest_7 rfl rfl (Nat.le_of_ble_eq_true rfl) rfl dX5_digest_212 ?_
              refine g_bipush (v := 40) X dX5_digest_215 (by decide) ?_
              refine g_iald (q0 := 1) (t0 := 0) X h rfl rfl dX5_digest_217 (fun v83 h => ?_)
              refine g_if_le (tgt := 245) X h dX5_digest_218 (by decide) (fun h => ?_) (fun h => ?_)
              · refine g_lv (lv' := [(0, .ref a0), (1, .long l1_72)]) [0, 1] rfl ?_
                exact hE (l1_72, w74, w75, w76, w77) (Option.some.inj h).symm
              · refine g_ldc2 X ct_X5_digest_195 dX5_digest_221 ?_
                refine g_lload_n X (j := 1) dX5_digest_224 rfl ?_
                refine g_lmul X dX5_digest_225 ?_
                refine g_aload_n X (j := 0) dX5_digest_226 rfl ?_
                refine g_iconst (v := 0) X dX5_digest_227 (by decide) ?_
                refine g_sipush (v := 1700) X dX5_digest_228 (by decide) ?_
                refine g_iload X (j := 2) dX5_digest_231 rfl ?_
                obtain ⟨r84, o85, o86, o87, o88, hc, h⟩ := bd5 h
                refine g_callV (q0 := 0) (ci := 5) (is := [0, 1, 2, 4, 5, 6]) (As := [.int 0, .int 1700, .int l4_73]) (ws' := [(a0, .inr (5, [.ref a1, .ref a2, .ref b0_2, .int x0_kept, .ref a3, .int x0_typed, .int 0, .int x0_at, .int x0_isFault, .int x0_value, .ref b0_10, .int x0_tolds, .ref a4, .ref a5, .ref a6])), (a1, .inl (cI, 41, .inl f1)), (a2, .inl (cI, 41, .inl o85)), (a3, .inl (cI, 60, .inl f3)), (a4, .inl (cI, 10, .inl o86)), (a5, .inl (cI, 1024, .inl o87)), (a6, .inl (cI, 20, .inl o88))]) (st := [.long ((31 : Int64) * l1_72)]) X (c_X5_byYear l D cI cS cL a0 a1 a2 a4 a5 a6 b0_2 a3 b0_10 0 1700 l4_73 x0_kept x0_typed 0 x0_at x0_isFault x0_value x0_tolds f1 w74 w75 w76 w77 r84 o85 o86 o87 o88 hc) gX5_digest_X5_byYear rfl ⟨rfl, rfl⟩ hd_X5_byYear ⟨Nat.le_of_ble_eq_true rfl, Nat.le_of_ble_eq_true rfl⟩ ⟨Nat.zero_le _, Nat.zero_le _⟩ rfl rfl rfl rfl rfl rfl rfl (Nat.le_of_ble_eq_true rfl) rfl dX5_digest_233 ?_
                refine g_i2l X dX5_digest_236 ?_
                refine g_ladd X dX5_digest_237 ?_
                refine g_lstore_n (lv' := [(1, .long (((31 : Int64) * l1_72) + ((r84 : Int32)).toInt64)), (0, .ref a0), (4, .int l4_73)]) X dX5_digest_238 rfl (by decide) rfl ?_
                refine g_iinc (j := 2) (lv' := [(4, .int (l4_73 + 1)), (1, .long (((31 : Int64) * l1_72) + ((r84 : Int32)).toInt64)), (0, .ref a0)]) X (l4_73 + 1) dX5_digest_239 rfl rfl (by decide) rfl ?_
                refine g_goto (tgt := 205) X dX5_digest_242 (by decide) ?_
                refine g_lv (lv' := [(0, .ref a0), (1, .long (((31 : Int64) * l1_72) + ((r84 : Int32)).toInt64)), (4, .int (l4_73 + 1))]) [2, 1, 0] rfl ?_
                exact hI ((((31 : Int64) * l1_72) + ((r84 : Int32)).toInt64), (l4_73 + 1), o85, o86, o87, o88) (Option.some.inj h).symm
        · rintro ⟨l1_59, l4_60, w61, w62, w63⟩ o h hI hE
          dsimp only [u5] at h ⊢
          refine g_iload X (j := 2) dX5_digest_175 rfl ?_
          refine g_bipush (v := 12) X dX5_digest_177 (by decide) ?_
          refine g_icmp_ge (tgt := 202) X h dX5_digest_179 (by decide) (fun h => ?_) (fun h => ?_)
          · refine g_lv (lv' := [(0, .ref a0), (1, .long l1_59)]) [0, 1] rfl ?_
            exact hE (l1_59, w61, w62, w63) (Option.some.inj h).symm
          · refine g_ldc2 X ct_X5_digest_195 dX5_digest_182 ?_
            refine g_lload_n X (j := 1) dX5_digest_185 rfl ?_
            refine g_lmul X dX5_digest_186 ?_
            refine g_aload_n X (j := 0) dX5_digest_187 rfl ?_
            refine g_iload X (j := 2) dX5_digest_188 rfl ?_
            obtain ⟨r68, o69, o70, o71, hc, h⟩ := bd4 h
            refine g_callV (q0 := 0) (ci := 5) (is := [0, 1, 2, 4, 5]) (As := [.int l4_60]) (ws' := [(a0, .inr (5, [.ref a1, .ref a2, .ref b0_2, .int x0_kept, .ref a3, .int x0_typed, .int 0, .int x0_at, .int x0_isFault, .int x0_value, .ref b0_10, .int x0_tolds, .ref a4, .ref a5, .ref a6])), (a1, .inl (cI, 41, .inl f1)), (a2, .inl (cI, 41, .inl o69)), (a3, .inl (cI, 60, .inl f3)), (a4, .inl (cI, 10, .inl o70)), (a5, .inl (cI, 1024, .inl o71)), (a6, .inl (cI, 20, .inl w22))]) (st := [.long ((31 : Int64) * l1_59)]) X (c_X5_more l D cI cS cL a0 a1 a2 a4 a5 b0_2 a3 b0_10 a6 l4_60 x0_kept x0_typed 0 x0_at x0_isFault x0_value x0_tolds f1 w61 w62 w63 r68 o69 o70 o71 hc) gX5_digest_X5_more rfl ⟨rfl, rfl⟩ hd_X5_more ⟨Nat.le_of_ble_eq_true rfl, Nat.le_of_ble_eq_true rfl⟩ ⟨Nat.zero_le _, Nat.zero_le _⟩ rfl rfl rfl rfl rfl rfl rfl (Nat.le_of_ble_eq_true rfl) rfl dX5_digest_190 ?_
            refine g_i2l X dX5_digest_193 ?_
            refine g_ladd X dX5_digest_194 ?_
            refine g_lstore_n (lv' := [(1, .long (((31 : Int64) * l1_59) + ((r68 : Int32)).toInt64)), (0, .ref a0), (4, .int l4_60)]) X dX5_digest_195 rfl (by decide) rfl ?_
            refine g_iinc (j := 2) (lv' := [(4, .int (l4_60 + 1)), (1, .long (((31 : Int64) * l1_59) + ((r68 : Int32)).toInt64)), (0, .ref a0)]) X (l4_60 + 1) dX5_digest_196 rfl rfl (by decide) rfl ?_
            refine g_goto (tgt := 175) X dX5_digest_199 (by decide) ?_
            refine g_lv (lv' := [(0, .ref a0), (1, .long (((31 : Int64) * l1_59) + ((r68 : Int32)).toInt64)), (4, .int (l4_60 + 1))]) [2, 1, 0] rfl ?_
            exact hI ((((31 : Int64) * l1_59) + ((r68 : Int32)).toInt64), (l4_60 + 1), o69, o70, o71) (Option.some.inj h).symm
      · rintro ⟨l1_44, l3_45, w46, w47⟩ o h hI hE
        dsimp only [u4] at h ⊢
        refine g_iload_n X (j := 2) dX5_digest_118 rfl ?_
        refine g_aload_n X (j := 0) dX5_digest_119 rfl ?_
        refine g_get (q0 := 0) (k := 0) (ci := 5) X in_X5_digest_X5 fl_X5_digest_7 rfl rfl (Nat.le_of_ble_eq_true rfl) rfl dX5_digest_120 ?_
        refine g_bipush (v := 40) X dX5_digest_123 (by decide) ?_
        refine g_iald (q0 := 1) (t0 := 0) X h rfl rfl dX5_digest_125 (fun v51 h => ?_)
        refine g_icmp_ge (tgt := 148) X h dX5_digest_126 (by decide) (fun h => ?_) (fun h => ?_)
        · refine g_lv (lv' := [(0, .ref a0), (1, .long l1_44)]) [0, 1] rfl ?_
          exact hE (l1_44, w46, w47) (Option.some.inj h).symm
        · refine g_ldc2 X ct_X5_digest_195 dX5_digest_129 ?_
          refine g_lload_n X (j := 1) dX5_digest_132 rfl ?_
          refine g_lmul X dX5_digest_133 ?_
          refine g_aload_n X (j := 0) dX5_digest_134 rfl ?_
          refine g_iload_n X (j := 2) dX5_digest_135 rfl ?_
          obtain ⟨r52, o53, o54, hc, h⟩ := bd3 h
          refine g_callV (q0 := 0) (ci := 5) (is := [0, 1, 4, 5]) (As := [.int l3_45]) (ws' := [(a0, .inr (5, [.ref a1, .ref a2, .ref b0_2, .int x0_kept, .ref a3, .int x0_typed, .int 0, .int x0_at, .int x0_isFault, .int x0_value, .ref b0_10, .int x0_tolds, .ref a4, .ref a5, .ref a6])), (a1, .inl (cI, 41, .inl f1)), (a2, .inl (cI, 41, .inl f2)), (a3, .inl (cI, 60, .inl f3)), (a4, .inl (cI, 10, .inl o53)), (a5, .inl (cI, 1024, .inl o54)), (a6, .inl (cI, 20, .inl w22))]) (st := [.long ((31 : Int64) * l1_44)]) X (c_X5_ordered l D cI cS cL a0 a1 a4 a5 a2 b0_2 a3 b0_10 a6 l3_45 x0_kept x0_typed 0 x0_at x0_isFault x0_value x0_tolds f1 w46 w47 r52 o53 o54 hc) gX5_digest_X5_ordered rfl ⟨rfl, rfl⟩ hd_X5_ordered ⟨Nat.le_of_ble_eq_true rfl, Nat.le_of_ble_eq_true rfl⟩ ⟨Nat.zero_le _, Nat.zero_le _⟩ rfl rfl rfl rfl rfl rfl rfl (Nat.le_of_ble_eq_true rfl) rfl dX5_digest_136 ?_
          refine g_i2l X dX5_digest_139 ?_
          refine g_ladd X dX5_digest_140 ?_
          refine g_lstore_n (lv' := [(1, .long (((31 : Int64) * l1_44) + ((r52 : Int32)).toInt64)), (0, .ref a0), (3, .int l3_45)]) X dX5_digest_141 rfl (by decide) rfl ?_
          refine g_iinc (j := 2) (lv' := [(3, .int (l3_45 + 1)), (1, .long (((31 : Int64) * l1_44) + ((r52 : Int32)).toInt64)), (0, .ref a0)]) X (l3_45 + 1) dX5_digest_142 rfl rfl (by decide) rfl ?_
          refine g_goto (tgt := 118) X dX5_digest_145 (by decide) ?_
          refine g_lv (lv' := [(0, .ref a0), (1, .long (((31 : Int64) * l1_44) + ((r52 : Int32)).toInt64)), (3, .int (l3_45 + 1))]) [2, 1, 0] rfl ?_
          exact hI ((((31 : Int64) * l1_44) + ((r52 : Int32)).toInt64), (l3_45 + 1), o53, o54) (Option.some.inj h).symm
    · rintro ⟨l1_14, l3_15, w16, w17, w18⟩ o h hI hE
      dsimp only [u5] at h ⊢
      refine g_iload_n X (j := 2) dX5_digest_38 rfl ?_
      refine g_aload_n X (j := 0) dX5_digest_39 rfl ?_
      refine g_get (q0 := 0) (k := 0) (ci := 5) X in_X5_digest_X5 fl_X5_digest_7 rfl rfl (Nat.le_of_ble_eq_true rfl) rfl dX5_digest_40 ?_
      refine g_bipush (v := 40) X dX5_digest_43 (by decide) ?_
      refine g_iald (q0 := 1) (t0 := 0) X h rfl rfl dX5_digest_45 (fun v23 h => ?_)
      refine g_icmp_ge (tgt := 116) X h dX5_digest_46 (by decide) (fun h => ?_) (fun h => ?_)
      · refine g_lv (lv' := [(0, .ref a0), (1, .long l1_14)]) [0, 1] rfl ?_
        exact hE (l1_14, w16, w17, w18) (Option.some.inj h).symm
      · refine g_iconst (v := 0) X dX5_digest_49 (by decide) ?_
        refine g_istore (lv' := [(4, .int 0), (0, .ref a0), (1, .long l1_14), (3, .int l3_15)]) X dX5_digest_50 (by decide) rfl ?_
        refine g_lv (lv' := [(0, .ref a0), (1, .long l1_14), (3, .int l3_15), (4, .int 0)]) [1, 2, 3, 0] rfl ?_
        refine wl_g1 h (u4 fun l1_24 l4_25 w26 w27 => [(a0, .inr (5, [.ref a1, .ref a2, .ref b0_2, .int x0_kept, .ref a3, .int x0_typed, .int 0, .int x0_at, .int x0_isFault, .int x0_value, .ref b0_10, .int x0_tolds, .ref a4, .ref a5, .ref a6])), (a1, .inl (cI, 41, .inl f1)), (a2, .inl (cI, 41, .inl f2)), (a3, .inl (cI, 60, .inl f3)), (a4, .inl (cI, 10, .inl w26)), (a5, .inl (cI, 1024, .inl w17)), (a6, .inl (cI, 20, .inl w27))]) (u4 fun l1_24 l4_25 w26 w27 => [(0, .ref a0), (1, .long l1_24), (3, .int l3_15), (4, .int l4_25)]) rfl rfl (u3 fun l1_28 w29 w30 => [(a0, .inr (5, [.ref a1, .ref a2, .ref b0_2, .int x0_kept, .ref a3, .int x0_typed, .int 0, .int x0_at, .int x0_isFault, .int x0_value, .ref b0_10, .int x0_tolds, .ref a4, .ref a5, .ref a6])), (a1, .inl (cI, 41, .inl f1)), (a2, .inl (cI, 41, .inl f2)), (a3, .inl (cI, 60, .inl f3)), (a4, .inl (cI, 10, .inl w29)), (a5, .inl (cI, 1024, .inl w17)), (a6, .inl (cI, 20, .inl w30))]) (u3 fun l1_28 w29 w30 => [(0, .ref a0), (1, .long l1_28), (3, .int l3_15)]) 80 ?_ ?_
        · rintro ⟨l1_28, w29, w30⟩ h
          dsimp only [u3] at h ⊢
          refine g_iconst (v := 0) X dX5_digest_80 (by decide) ?_
          refine g_istore (lv' := [(4, .int 0), (0, .ref a0), (1, .long l1_28), (3, .int l3_15)]) X dX5_digest_81 (by decide) rfl ?_
          refine g_lv (lv' := [(0, .ref a0), (1, .long l1_28), (3, .int l3_15), (4, .int 0)]) [1, 2, 3, 0] rfl ?_
          refine wl_g1 h (u4 fun l1_34 l4_35 w36 w37 => [(a0, .inr (5, [.ref a1, .ref a2, .ref b0_2, .int x0_kept, .ref a3, .int x0_typed, .int 0, .int x0_at, .int x0_isFault, .int x0_value, .ref b0_10, .int x0_tolds, .ref a4, .ref a5, .ref a6])), (a1, .inl (cI, 41, .inl f1)), (a2, .inl (cI, 41, .inl f2)), (a3, .inl (cI, 60, .inl f3)), (a4, .inl (cI, 10, .inl w36)), (a5, .inl (cI, 1024, .inl w37)), (a6, .inl (cI, 20, .inl w30))]) (u4 fun l1_34 l4_35 w36 w37 => [(0, .ref a0), (1, .long l1_34), (3, .int l3_15), (4, .int l4_35)]) rfl rfl (u3 fun l1_38 w39 w40 => [(a0, .inr (5, [.ref a1, .ref a2, .ref b0_2, .int x0_kept, .ref a3, .int x0_typed, .int 0, .int x0_at, .int x0_isFault, .int x0_value, .ref b0_10, .int x0_tolds, .ref a4, .ref a5, .ref a6])), (a1, .inl (cI, 41, .inl f1)), (a2, .inl (cI, 41, .inl f2)), (a3, .inl (cI, 60, .inl f3)), (a4, .inl (cI, 10, .inl w39)), (a5, .inl (cI, 1024, .inl w40)), (a6, .inl (cI, 20, .inl w30))]) (u3 fun l1_38 w39 w40 => [(0, .ref a0), (1, .long l1_38), (3, .int l3_15)]) 110 ?_ ?_
          · rintro ⟨l1_38, w39, w40⟩ h
            dsimp only [u3] at h ⊢
            refine g_iinc (j := 2) (lv' := [(3, .int (l3_15 + 1)), (0, .ref a0), (1, .long l1_38)]) X (l3_15 + 1) dX5_digest_110 rfl rfl (by decide) rfl ?_
            refine g_goto (tgt := 38) X dX5_digest_113 (by decide) ?_
            refine g_lv (lv' := [(0, .ref a0), (1, .long l1_38), (3, .int (l3_15 + 1))]) [1, 2, 0] rfl ?_
            exact hI (l1_38, (l3_15 + 1), w39, w40, w30) (Option.some.inj h).symm
          · rintro ⟨l1_34, l4_35, w36, w37⟩ o h hI hE
            dsimp only [u4] at h ⊢
            refine g_iload X (j := 3) dX5_digest_83 rfl ?_
            refine g_iconst (v := 3) X dX5_digest_85 (by decide) ?_
            refine g_icmp_ge (tgt := 110) X h dX5_digest_86 (by decide) (fun h => ?_) (fun h => ?_)
            · refine g_lv (lv' := [(0, .ref a0), (1, .long l1_34), (3, .int l3_15)]) [0, 1, 2] rfl ?_
              exact hE (l1_34, w36, w37) (Option.some.inj h).symm
            · refine g_ldc2 X ct_X5_digest_195 dX5_digest_89 ?_
              refine g_lload_n X (j := 1) dX5_digest_92 rfl ?_
              refine g_lmul X dX5_digest_93 ?_
              refine g_aload_n X (j := 0) dX5_digest_94 rfl ?_
              refine g_iload_n X (j := 2) dX5_digest_95 rfl ?_
              refine g_iload X (j := 3) dX5_digest_96 rfl ?_
              obtain ⟨r41, o42, o43, hc, h⟩ := bd3 h
              refine g_callV (q0 := 0) (ci := 5) (is := [0, 1, 4, 5]) (As := [.int l3_15, .int l4_35]) (ws' := [(a0, .inr (5, [.ref a1, .ref a2, .ref b0_2, .int x0_kept, .ref a3, .int x0_typed, .int 0, .int x0_at, .int x0_isFault, .int x0_value, .ref b0_10, .int x0_tolds, .ref a4, .ref a5, .ref a6])), (a1, .inl (cI, 41, .inl f1)), (a2, .inl (cI, 41, .inl f2)), (a3, .inl (cI, 60, .inl f3)), (a4, .inl (cI, 10, .inl o42)), (a5, .inl (cI, 1024, .inl o43)), (a6, .inl (cI, 20, .inl w30))]) (st := [.long ((31 : Int64) * l1_34)]) X (c_X5_stands l D cI cS cL a0 a1 a4 a5 a2 b0_2 a3 b0_10 a6 l3_15 l4_35 x0_kept x0_typed 0 x0_at x0_isFault x0_value x0_tolds f1 w36 w37 r41 o42 o43 hc) gX5_digest_X5_stands rfl ⟨rfl, rfl⟩ hd_X5_stands ⟨Nat.le_of_ble_eq_true rfl, Nat.le_of_ble_eq_true rfl⟩ ⟨Nat.zero_le _, Nat.zero_le _⟩ rfl rfl rfl rfl rfl rfl rfl (Nat.le_of_ble_eq_true rfl) rfl dX5_digest_98 ?_
              refine g_i2l X dX5_digest_101 ?_
              refine g_ladd X dX5_digest_102 ?_
              refine g_lstore_n (lv' := [(1, .long (((31 : Int64) * l1_34) + ((r41 : Int32)).toInt64)), (0, .ref a0), (3, .int l3_15), (4, .int l4_35)]) X dX5_digest_103 rfl (by decide) rfl ?_
              refine g_iinc (j := 3) (lv' := [(4, .int (l4_35 + 1)), (1, .long (((31 : Int64) * l1_34) + ((r41 : Int32)).toInt64)), (0, .ref a0), (3, .int l3_15)]) X (l4_35 + 1) dX5_digest_104 rfl rfl (by decide) rfl ?_
              refine g_goto (tgt := 83) X dX5_digest_107 (by decide) ?_
              refine g_lv (lv' := [(0, .ref a0), (1, .long (((31 : Int64) * l1_34) + ((r41 : Int32)).toInt64)), (3, .int l3_15), (4, .int (l4_35 + 1))]) [2, 1, 3, 0] rfl ?_
              exact hI ((((31 : Int64) * l1_34) + ((r41 : Int32)).toInt64), (l4_35 + 1), o42, o43) (Option.some.inj h).symm
        · rintro ⟨l1_24, l4_25, w26, w27⟩ o h hI hE
          dsimp only [u4] at h ⊢
          refine g_iload X (j := 3) dX5_digest_52 rfl ?_
          refine g_bipush (v := 11) X dX5_digest_54 (by decide) ?_
          refine g_icmp_ge (tgt := 80) X h dX5_digest_56 (by decide) (fun h => ?_) (fun h => ?_)
          · refine g_lv (lv' := [(0, .ref a0), (1, .long l1_24), (3, .int l3_15)]) [0, 1, 2] rfl ?_
            exact hE (l1_24, w26, w27) (Option.some.inj h).symm
          · refine g_ldc2 X ct_X5_digest_195 dX5_digest_59 ?_
            refine g_lload_n X (j := 1) dX5_digest_62 rfl ?_
            refine g_lmul X dX5_digest_63 ?_
            refine g_aload_n X (j := 0) dX5_digest_64 rfl ?_
            refine g_iload_n X (j := 2) dX5_digest_65 rfl ?_
            refine g_iload X (j := 3) dX5_digest_66 rfl ?_
            obtain ⟨r31, o32, o33, hc, h⟩ := bd3 h
            refine g_callV (q0 := 0) (ci := 5) (is := [0, 1, 4, 6]) (As := [.int l3_15, .int l4_25]) (ws' := [(a0, .inr (5, [.ref a1, .ref a2, .ref b0_2, .int x0_kept, .ref a3, .int x0_typed, .int 0, .int x0_at, .int x0_isFault, .int x0_value, .ref b0_10, .int x0_tolds, .ref a4, .ref a5, .ref a6])), (a1, .inl (cI, 41, .inl f1)), (a2, .inl (cI, 41, .inl f2)), (a3, .inl (cI, 60, .inl f3)), (a4, .inl (cI, 10, .inl o32)), (a5, .inl (cI, 1024, .inl w17)), (a6, .inl (cI, 20, .inl o33))]) (st := [.long ((31 : Int64) * l1_24)]) X (c_X5_ofBook l D cI cS cL a0 a1 a4 a6 a2 b0_2 a3 b0_10 a5 l3_15 l4_25 x0_kept x0_typed 0 x0_at x0_isFault x0_value x0_tolds f1 w26 w27 r31 o32 o33 hc) gX5_digest_X5_ofBook rfl ⟨rfl, rfl⟩ hd_X5_ofBook ⟨Nat.le_of_ble_eq_true rfl, Nat.le_of_ble_eq_true rfl⟩ ⟨Nat.zero_le _, Nat.zero_le _⟩ rfl rfl rfl rfl rfl rfl rfl (Nat.le_of_ble_eq_true rfl) rfl dX5_digest_68 ?_
            refine g_i2l X dX5_digest_71 ?_
            refine g_ladd X dX5_digest_72 ?_
            refine g_lstore_n (lv' := [(1, .long (((31 : Int64) * l1_24) + ((r31 : Int32)).toInt64)), (0, .ref a0), (3, .int l3_15), (4, .int l4_25)]) X dX5_digest_73 rfl (by decide) rfl ?_
            refine g_iinc (j := 3) (lv' := [(4, .int (l4_25 + 1)), (1, .long (((31 : Int64) * l1_24) + ((r31 : Int32)).toInt64)), (0, .ref a0), (3, .int l3_15)]) X (l4_25 + 1) dX5_digest_74 rfl rfl (by decide) rfl ?_
            refine g_goto (tgt := 52) X dX5_digest_77 (by decide) ?_
            refine g_lv (lv' := [(0, .ref a0), (1, .long (((31 : Int64) * l1_24) + ((r31 : Int32)).toInt64)), (3, .int l3_15), (4, .int (l4_25 + 1))]) [2, 1, 3, 0] rfl ?_
            exact hI ((((31 : Int64) * l1_24) + ((r31 : Int32)).toInt64), (l4_25 + 1), o32, o33) (Option.some.inj h).symm
  · rintro ⟨l1_1, l3_2, w3, w4, w5⟩ o h hI hE
    dsimp only [u5] at h ⊢
    refine g_iload_n X (j := 2) dX5_digest_11 rfl ?_
    refine g_bipush (v := 10) X dX5_digest_12 (by decide) ?_
    refine g_icmp_ge (tgt := 36) X h dX5_digest_14 (by decide) (fun h => ?_) (fun h => ?_)
    · refine g_lv (lv' := [(0, .ref a0), (1, .long l1_1)]) [0, 1] rfl ?_
      exact hE (l1_1, w3, w4, w5) (Option.some.inj h).symm
    · refine g_ldc2 X ct_X5_digest_195 dX5_digest_17 ?_
      refine g_lload_n X (j := 1) dX5_digest_20 rfl ?_
      refine g_lmul X dX5_digest_21 ?_
      refine g_aload_n X (j := 0) dX5_digest_22 rfl ?_
      refine g_iload_n X (j := 2) dX5_digest_23 rfl ?_
      obtain ⟨r10, o11, o12, o13, hc, h⟩ := bd4 h
      refine g_callV (q0 := 0) (ci := 5) (is := [0, 1, 4, 5, 6]) (As := [.int l3_2]) (ws' := [(a0, .inr (5, [.ref a1, .ref a2, .ref b0_2, .int x0_kept, .ref a3, .int x0_typed, .int 0, .int x0_at, .int x0_isFault, .int x0_value, .ref b0_10, .int x0_tolds, .ref a4, .ref a5, .ref a6])), (a1, .inl (cI, 41, .inl f1)), (a2, .inl (cI, 41, .inl f2)), (a3, .inl (cI, 60, .inl f3)), (a4, .inl (cI, 10, .inl o11)), (a5, .inl (cI, 1024, .inl o12)), (a6, .inl (cI, 20, .inl o13))]) (st := [.long ((31 : Int64) * l1_1)]) X (c_X5_counted l D cI cS cL a0 a1 a4 a5 a6 a2 b0_2 a3 b0_10 l3_2 x0_kept x0_typed 0 x0_at x0_isFault x0_value x0_tolds f1 w3 w4 w5 r10 o11 o12 o13 hc) gX5_digest_X5_counted rfl ⟨rfl, rfl⟩ hd_X5_counted ⟨Nat.le_of_ble_eq_true rfl, Nat.le_of_ble_eq_true rfl⟩ ⟨Nat.zero_le _, Nat.zero_le _⟩ rfl rfl rfl rfl rfl rfl rfl (Nat.le_of_ble_eq_true rfl) rfl dX5_digest_24 ?_
      refine g_i2l X dX5_digest_27 ?_
      refine g_ladd X dX5_digest_28 ?_
      refine g_lstore_n (lv' := [(1, .long (((31 : Int64) * l1_1) + ((r10 : Int32)).toInt64)), (0, .ref a0), (3, .int l3_2)]) X dX5_digest_29 rfl (by decide) rfl ?_
      refine g_iinc (j := 2) (lv' := [(3, .int (l3_2 + 1)), (1, .long (((31 : Int64) * l1_1) + ((r10 : Int32)).toInt64)), (0, .ref a0)]) X (l3_2 + 1) dX5_digest_30 rfl rfl (by decide) rfl ?_
      refine g_goto (tgt := 11) X dX5_digest_33 (by decide) ?_
      refine g_lv (lv' := [(0, .ref a0), (1, .long (((31 : Int64) * l1_1) + ((r10 : Int32)).toInt64)), (3, .int (l3_2 + 1))]) [2, 1, 0] rfl ?_
      exact hI ((((31 : Int64) * l1_1) + ((r10 : Int32)).toInt64), (l3_2 + 1), o11, o12, o13) (Option.some.inj h).symm
