set_option maxRecDepth 20000 in
theorem ggL_orders_X4_count : GoodIn wsL_orders wsX4_count := goodIn_ca (goodIn_r _ [5, 6, 7, 8, 9, 10, 4, 11, 12, 13, 14, 15, 16, 17, 18, 19, 20, 21, 22, 23, 24, 25, 26, 27, 28, 29, 30, 31, 32, 33, 34, 35, 36, 37, 38, 39, 40, 41, 42, 43, 44, 45, 46, 47, 48, 49, 50, 51, 52, 53, 54, 55, 56, 57, 58, 59, 60, 61, 62, 63, 64, 65, 66, 67, 68, 69, 70, 71, 72, 73, 74, 75, 76, 77, 78, 79, 80, 81, 82, 83, 84, 85, 86, 87, 88, 89, 90, 91, 92, 93, 94, 95, 96, 97, 98, 99, 100, 101, 102, 103, 104, 105, 106, 107, 108, 109, 110, 111, 112, 113, 114, 115, 116, 117, 174, 175, 176, 177, 178, 179, 180, 181, 182, 183, 184, 185, 186, 187, 188, 189, 190, 191, 192, 193, 194, 195, 196, 197, 198, 199] (by decide +kernel) (by decide +kernel)) (goodIn_sub (fun _ h => List.mem_cons_of_mem _ (List.mem_append_left _ (List.mem_append_right _ h))) (by decide +kernel))
set_option maxRecDepth 20000 in
theorem gL_orders_X4_count : GoodIn wsL_orders (wsV RL 21 RX4 yX4_count wsX4_count) := goodIn_app (goodIn_of _ (by decide +kernel)) ggL_orders_X4_count
set_option maxRecDepth 20000 in
theorem ggL_orders_X4_wrong : GoodIn wsL_orders wsX4_wrong := goodIn_ca (goodIn_r _ [121, 6, 7, 16, 17, 18, 4, 19, 20, 21, 12, 22, 23, 24, 25, 26, 27, 28, 29, 30, 31, 32, 33, 34, 35, 36, 37, 38, 39, 40, 41, 42, 43, 44, 45, 46, 47, 48, 49, 50, 51, 52, 53, 54, 55, 56, 57, 58, 59, 60, 61, 62, 63, 64, 65, 66, 67, 68, 122, 123, 124, 125, 97, 98, 99, 100, 86, 87, 88, 89, 90, 91, 92, 101, 102, 103, 104, 105, 106, 107, 108, 109, 126, 174, 175, 176, 177, 178, 179, 180, 181, 182, 183, 184, 185, 186, 187, 190, 191, 192, 193, 194, 195, 196, 197, 198, 199] (by decide +kernel) (by decide +kernel)) (goodIn_sub (fun _ h => List.mem_cons_of_mem _ (List.mem_append_left _ (List.mem_append_right _ h))) (by decide +kernel))
set_option maxRecDepth 20000 in
theorem gL_orders_X4_wrong : GoodIn wsL_orders (wsV RL 25 RX4 yX4_wrong wsX4_wrong) := goodIn_app (goodIn_of _ (by decide +kernel)) ggL_orders_X4_wrong
set_option maxRecDepth 20000 in
theorem ggL_orders_L_ones : GoodIn wsL_orders wsL_ones := goodIn_r _ [130] (by decide +kernel) (by decide +kernel)
set_option maxRecDepth 20000 in
theorem gL_orders_L_ones : GoodIn wsL_orders (va_wsS RL 28 yL_ones wsL_ones) := goodIn_app (goodIn_of _ (by decide +kernel)) ggL_orders_L_ones
set_option maxRecDepth 20000 in
theorem ggL_orders_X4_order : GoodIn wsL_orders wsX4_order := goodIn_ca (goodIn_r _ [134, 6, 7, 16, 17, 18, 4, 19, 20, 21, 12, 22, 23, 24, 25, 26, 27, 28, 29, 30, 31, 32, 33, 34, 35, 36, 37, 38, 39, 40, 41, 42, 43, 44, 45, 46, 47, 48, 49, 50, 51, 52, 53, 54, 55, 56, 57, 58, 59, 60, 61, 62, 63, 64, 65, 66, 67, 68, 135, 136, 137, 138, 139, 140, 141, 142, 174, 175, 176, 177, 178, 179, 180, 181, 182, 183, 184, 185, 186, 187, 190, 191, 192, 193, 194, 195, 196, 197, 198, 199] (by decide +kernel) (by decide +kernel)) (goodIn_sub (fun _ h => List.mem_cons_of_mem _ (List.mem_append_left _ (List.mem_append_right _ h))) (by decide +kernel))
set_option maxRecDepth 20000 in
theorem gL_orders_X4_order : GoodIn wsL_orders (wsV RL 33 RX4 yX4_order wsX4_order) := goodIn_app (goodIn_of _ (by decide +kernel)) ggL_orders_X4_order
set_option maxRecDepth 20000 in
theorem ggL_orders_X4_place : GoodIn wsL_orders wsX4_place := goodIn_ca (goodIn_ca (goodIn_r _ [146, 147, 148, 6, 7, 149, 150, 151, 4, 152, 12, 13, 153, 154, 155, 156, 16, 17, 18, 19, 20, 21, 22, 23, 24, 25, 26, 27, 28, 29, 30, 31, 32, 33, 34, 35, 36, 37, 38, 39, 40, 41, 42, 43, 44, 45, 46, 47, 48, 49, 50, 51, 52, 53, 54, 55, 56, 57, 58, 59, 60, 61, 62, 63, 64, 65, 66, 67, 68, 157, 158, 159, 160, 86, 87, 88, 89, 90, 91, 92, 161, 162, 163, 164, 165, 166, 167, 168, 97, 98, 99, 100, 101, 102, 103, 104, 105, 106, 107, 108, 109, 174, 175, 176, 177, 178, 179, 180, 181, 182, 183, 184, 185, 186, 187, 190, 191, 192, 193, 194, 195, 196, 197, 198, 199] (by decide +kernel) (by decide +kernel)) (goodIn_sub (fun _ h => List.mem_cons_of_mem _ (List.mem_append_right _ h)) (by decide +kernel))) (goodIn_sub (fun _ h => List.mem_cons_of_mem _ (List.mem_append_left _ (List.mem_append_right _ h))) (by decide +kernel))
set_option maxRecDepth 20000 in
theorem gL_orders_X4_place : GoodIn wsL_orders (wsV RL 36 RX4 yX4_place wsX4_place) := goodIn_app (goodIn_of _ (by decide +kernel)) ggL_orders_X4_place
set_option maxRecDepth 20000 in
theorem ggL_orders_X4_ahead : GoodIn wsL_orders wsX4_ahead := goodIn_ca (goodIn_ca (goodIn_r _ [172, 147, 148, 6, 7, 12, 149, 150, 151, 4, 152, 13, 173, 37, 38, 39, 40, 41, 42, 43, 44, 174, 175, 176, 177, 178, 179, 180, 181, 182, 183, 184, 185, 186, 187] (by decide +kernel) (by decide +kernel)) (goodIn_sub (fun _ h => List.mem_cons_of_mem _ (List.mem_append_right _ h)) (by decide +kernel))) (goodIn_sub (fun _ h => List.mem_cons_of_mem _ (List.mem_append_left _ (List.mem_append_right _ h))) (by decide +kernel))
set_option maxRecDepth 20000 in
theorem gL_orders_X4_ahead : GoodIn wsL_orders (wsV RL 40 RX4 yX4_ahead wsX4_ahead) := goodIn_app (goodIn_of _ (by decide +kernel)) ggL_orders_X4_ahead
theorem dL_orders_0 : decode cL_orders 0 = .ok (.aload_n 0, 1) := by decide +kernel
theorem dL_orders_1 : decode cL_orders 1 = .ok (.iconst 0, 1) := by decide +kernel
theorem dL_orders_2 : decode cL_orders 2 = .ok (.invokevirtual 21, 3) := by decide +kernel
theorem dL_orders_5 : decode cL_orders 5 = .ok (.istore_n 1, 1) := by decide +kernel
theorem dL_orders_6 : decode cL_orders 6 = .ok (.aload_n 0, 1) := by decide +kernel
theorem dL_orders_7 : decode cL_orders 7 = .ok (.iconst 4, 1) := by decide +kernel
theorem dL_orders_8 : decode cL_orders 8 = .ok (.invokevirtual 21, 3) := by decide +kernel
theorem dL_orders_11 : decode cL_orders 11 = .ok (.istore_n 2, 1) := by decide +kernel
theorem dL_orders_12 : decode cL_orders 12 = .ok (.iconst 0, 1) := by decide +kernel
theorem dL_orders_13 : decode cL_orders 13 = .ok (.istore_n 3, 1) := by decide +kernel
theorem dL_orders_14 : decode cL_orders 14 = .ok (.iconst 0, 1) := by decide +kernel
theorem dL_orders_15 : decode cL_orders 15 = .ok (.istore 4, 2) := by decide +kernel
theorem dL_orders_17 : decode cL_orders 17 = .ok (.iload_n 2, 1) := by decide +kernel
theorem dL_orders_18 : decode cL_orders 18 = .ok (.ifCond .lt 60, 3) := by decide +kernel
theorem dL_orders_21 : decode cL_orders 21 = .ok (.aload_n 0, 1) := by decide +kernel
theorem dL_orders_22 : decode cL_orders 22 = .ok (.iconst 3, 1) := by decide +kernel
theorem dL_orders_23 : decode cL_orders 23 = .ok (.invokevirtual 21, 3) := by decide +kernel
theorem dL_orders_26 : decode cL_orders 26 = .ok (.ifCond .eq 7, 3) := by decide +kernel
theorem dL_orders_29 : decode cL_orders 29 = .ok (.iload_n 2, 1) := by decide +kernel
theorem dL_orders_30 : decode cL_orders 30 = .ok (.ifCond .ne 48, 3) := by decide +kernel
theorem dL_orders_33 : decode cL_orders 33 = .ok (.iload_n 2, 1) := by decide +kernel
theorem dL_orders_34 : decode cL_orders 34 = .ok (.ifCond .le 7, 3) := by decide +kernel
theorem dL_orders_37 : decode cL_orders 37 = .ok (.iconst 1, 1) := by decide +kernel
theorem dL_orders_38 : decode cL_orders 38 = .ok (.goto 4, 3) := by decide +kernel
theorem dL_orders_41 : decode cL_orders 41 = .ok (.iconst 0, 1) := by decide +kernel
theorem dL_orders_42 : decode cL_orders 42 = .ok (.aload_n 0, 1) := by decide +kernel
theorem dL_orders_43 : decode cL_orders 43 = .ok (.iconst 0, 1) := by decide +kernel
theorem dL_orders_44 : decode cL_orders 44 = .ok (.invokevirtual 25, 3) := by decide +kernel
theorem dL_orders_47 : decode cL_orders 47 = .ok (.ifCond .ne 7, 3) := by decide +kernel
theorem dL_orders_50 : decode cL_orders 50 = .ok (.iconst 1, 1) := by decide +kernel
theorem dL_orders_51 : decode cL_orders 51 = .ok (.goto 4, 3) := by decide +kernel
theorem dL_orders_54 : decode cL_orders 54 = .ok (.iconst 0, 1) := by decide +kernel
theorem dL_orders_55 : decode cL_orders 55 = .ok (.if_icmp .ne 23, 3) := by decide +kernel
theorem dL_orders_58 : decode cL_orders 58 = .ok (.aload_n 0, 1) := by decide +kernel
theorem dL_orders_59 : decode cL_orders 59 = .ok (.iconst 0, 1) := by decide +kernel
theorem dL_orders_60 : decode cL_orders 60 = .ok (.invokevirtual 25, 3) := by decide +kernel
theorem dL_orders_63 : decode cL_orders 63 = .ok (.aload_n 0, 1) := by decide +kernel
theorem dL_orders_64 : decode cL_orders 64 = .ok (.iconst 1, 1) := by decide +kernel
theorem dL_orders_65 : decode cL_orders 65 = .ok (.invokevirtual 25, 3) := by decide +kernel
theorem dL_orders_68 : decode cL_orders 68 = .ok (.invokestatic 28, 3) := by decide +kernel
theorem dL_orders_71 : decode cL_orders 71 = .ok (.if_icmp .ne 7, 3) := by decide +kernel
theorem dL_orders_74 : decode cL_orders 74 = .ok (.iconst 1, 1) := by decide +kernel
theorem dL_orders_75 : decode cL_orders 75 = .ok (.goto 4, 3) := by decide +kernel
theorem dL_orders_78 : decode cL_orders 78 = .ok (.iconst 0, 1) := by decide +kernel
theorem dL_orders_79 : decode cL_orders 79 = .ok (.istore 5, 2) := by decide +kernel
theorem dL_orders_81 : decode cL_orders 81 = .ok (.iconst 0, 1) := by decide +kernel
theorem dL_orders_82 : decode cL_orders 82 = .ok (.istore 6, 2) := by decide +kernel
theorem dL_orders_84 : decode cL_orders 84 = .ok (.iload 6, 2) := by decide +kernel
theorem dL_orders_86 : decode cL_orders 86 = .ok (.iload_n 1, 1) := by decide +kernel
theorem dL_orders_87 : decode cL_orders 87 = .ok (.if_icmp .ge 165, 3) := by decide +kernel
theorem dL_orders_90 : decode cL_orders 90 = .ok (.iload 5, 2) := by decide +kernel
theorem dL_orders_92 : decode cL_orders 92 = .ok (.ifCond .eq 160, 3) := by decide +kernel
theorem dL_orders_95 : decode cL_orders 95 = .ok (.aload_n 0, 1) := by decide +kernel
theorem dL_orders_96 : decode cL_orders 96 = .ok (.iload 6, 2) := by decide +kernel
theorem dL_orders_98 : decode cL_orders 98 = .ok (.invokevirtual 33, 3) := by decide +kernel
theorem dL_orders_101 : decode cL_orders 101 = .ok (.istore 7, 2) := by decide +kernel
theorem dL_orders_103 : decode cL_orders 103 = .ok (.iload_n 3, 1) := by decide +kernel
theorem dL_orders_104 : decode cL_orders 104 = .ok (.aload_n 0, 1) := by decide +kernel
theorem dL_orders_105 : decode cL_orders 105 = .ok (.iload 6, 2) := by decide +kernel
theorem dL_orders_107 : decode cL_orders 107 = .ok (.iconst 2, 1) := by decide +kernel
theorem dL_orders_108 : decode cL_orders 108 = .ok (.invokevirtual 36, 3) := by decide +kernel
theorem dL_orders_111 : decode cL_orders 111 = .ok (.iadd, 1) := by decide +kernel
theorem dL_orders_112 : decode cL_orders 112 = .ok (.istore_n 3, 1) := by decide +kernel
theorem dL_orders_113 : decode cL_orders 113 = .ok (.iload 7, 2) := by decide +kernel
theorem dL_orders_115 : decode cL_orders 115 = .ok (.iconst (-1), 1) := by decide +kernel
theorem dL_orders_116 : decode cL_orders 116 = .ok (.if_icmp .ne 7, 3) := by decide +kernel
theorem dL_orders_119 : decode cL_orders 119 = .ok (.iconst 1, 1) := by decide +kernel
theorem dL_orders_120 : decode cL_orders 120 = .ok (.goto 4, 3) := by decide +kernel
theorem dL_orders_123 : decode cL_orders 123 = .ok (.iconst 0, 1) := by decide +kernel
theorem dL_orders_124 : decode cL_orders 124 = .ok (.iload_n 2, 1) := by decide +kernel
theorem dL_orders_125 : decode cL_orders 125 = .ok (.ifCond .ne 7, 3) := by decide +kernel
theorem dL_orders_128 : decode cL_orders 128 = .ok (.iconst 1, 1) := by decide +kernel
theorem dL_orders_129 : decode cL_orders 129 = .ok (.goto 4, 3) := by decide +kernel
theorem dL_orders_132 : decode cL_orders 132 = .ok (.iconst 0, 1) := by decide +kernel
theorem dL_orders_133 : decode cL_orders 133 = .ok (.if_icmp .ne 7, 3) := by decide +kernel
theorem dL_orders_136 : decode cL_orders 136 = .ok (.iconst 1, 1) := by decide +kernel
theorem dL_orders_137 : decode cL_orders 137 = .ok (.goto 4, 3) := by decide +kernel
theorem dL_orders_140 : decode cL_orders 140 = .ok (.iconst 0, 1) := by decide +kernel
theorem dL_orders_141 : decode cL_orders 141 = .ok (.istore 5, 2) := by decide +kernel
theorem dL_orders_143 : decode cL_orders 143 = .ok (.iload 7, 2) := by decide +kernel
theorem dL_orders_145 : decode cL_orders 145 = .ok (.ifCond .lt 101, 3) := by decide +kernel
theorem dL_orders_148 : decode cL_orders 148 = .ok (.iload 5, 2) := by decide +kernel
theorem dL_orders_150 : decode cL_orders 150 = .ok (.ifCond .eq 96, 3) := by decide +kernel
theorem dL_orders_153 : decode cL_orders 153 = .ok (.iload 4, 2) := by decide +kernel
theorem dL_orders_155 : decode cL_orders 155 = .ok (.iload 7, 2) := by decide +kernel
theorem dL_orders_157 : decode cL_orders 157 = .ok (.ishr, 1) := by decide +kernel
theorem dL_orders_158 : decode cL_orders 158 = .ok (.iconst 1, 1) := by decide +kernel
theorem dL_orders_159 : decode cL_orders 159 = .ok (.iand, 1) := by decide +kernel
theorem dL_orders_160 : decode cL_orders 160 = .ok (.ifCond .ne 31, 3) := by decide +kernel
theorem dL_orders_163 : decode cL_orders 163 = .ok (.aload_n 0, 1) := by decide +kernel
theorem dL_orders_164 : decode cL_orders 164 = .ok (.iload 7, 2) := by decide +kernel
theorem dL_orders_166 : decode cL_orders 166 = .ok (.iconst 0, 1) := by decide +kernel
theorem dL_orders_167 : decode cL_orders 167 = .ok (.invokevirtual 36, 3) := by decide +kernel
theorem dL_orders_170 : decode cL_orders 170 = .ok (.iload 6, 2) := by decide +kernel
theorem dL_orders_172 : decode cL_orders 172 = .ok (.if_icmp .gt 19, 3) := by decide +kernel
theorem dL_orders_175 : decode cL_orders 175 = .ok (.iload 6, 2) := by decide +kernel
theorem dL_orders_177 : decode cL_orders 177 = .ok (.aload_n 0, 1) := by decide +kernel
theorem dL_orders_178 : decode cL_orders 178 = .ok (.iload 7, 2) := by decide +kernel
theorem dL_orders_180 : decode cL_orders 180 = .ok (.iconst 1, 1) := by decide +kernel
theorem dL_orders_181 : decode cL_orders 181 = .ok (.invokevirtual 36, 3) := by decide +kernel
theorem dL_orders_184 : decode cL_orders 184 = .ok (.if_icmp .gt 7, 3) := by decide +kernel
theorem dL_orders_187 : decode cL_orders 187 = .ok (.iconst 1, 1) := by decide +kernel
theorem dL_orders_188 : decode cL_orders 188 = .ok (.goto 4, 3) := by decide +kernel
theorem dL_orders_191 : decode cL_orders 191 = .ok (.iconst 0, 1) := by decide +kernel
theorem dL_orders_192 : decode cL_orders 192 = .ok (.istore 5, 2) := by decide +kernel
theorem dL_orders_194 : decode cL_orders 194 = .ok (.iconst 0, 1) := by decide +kernel
theorem dL_orders_195 : decode cL_orders 195 = .ok (.istore 8, 2) := by decide +kernel
theorem dL_orders_197 : decode cL_orders 197 = .ok (.iload 8, 2) := by decide +kernel
theorem dL_orders_199 : decode cL_orders 199 = .ok (.iload 6, 2) := by decide +kernel
theorem dL_orders_201 : decode cL_orders 201 = .ok (.if_icmp .ge 36, 3) := by decide +kernel
theorem dL_orders_204 : decode cL_orders 204 = .ok (.iload 5, 2) := by decide +kernel
theorem dL_orders_206 : decode cL_orders 206 = .ok (.ifCond .eq 31, 3) := by decide +kernel
theorem dL_orders_209 : decode cL_orders 209 = .ok (.aload_n 0, 1) := by decide +kernel
theorem dL_orders_210 : decode cL_orders 210 = .ok (.iload 7, 2) := by decide +kernel
theorem dL_orders_212 : decode cL_orders 212 = .ok (.aload_n 0, 1) := by decide +kernel
theorem dL_orders_213 : decode cL_orders 213 = .ok (.iload 8, 2) := by decide +kernel
theorem dL_orders_215 : decode cL_orders 215 = .ok (.invokevirtual 33, 3) := by decide +kernel
theorem dL_orders_218 : decode cL_orders 218 = .ok (.invokevirtual 40, 3) := by decide +kernel
theorem dL_orders_221 : decode cL_orders 221 = .ok (.ifCond .ne 7, 3) := by decide +kernel
theorem dL_orders_224 : decode cL_orders 224 = .ok (.iconst 1, 1) := by decide +kernel
theorem dL_orders_225 : decode cL_orders 225 = .ok (.goto 4, 3) := by decide +kernel
theorem dL_orders_228 : decode cL_orders 228 = .ok (.iconst 0, 1) := by decide +kernel
theorem dL_orders_229 : decode cL_orders 229 = .ok (.istore 5, 2) := by decide +kernel
theorem dL_orders_231 : decode cL_orders 231 = .ok (.iinc 8 1, 3) := by decide +kernel
theorem dL_orders_234 : decode cL_orders 234 = .ok (.goto (-37), 3) := by decide +kernel
theorem dL_orders_237 : decode cL_orders 237 = .ok (.iload 4, 2) := by decide +kernel
theorem dL_orders_239 : decode cL_orders 239 = .ok (.iconst 1, 1) := by decide +kernel
theorem dL_orders_240 : decode cL_orders 240 = .ok (.iload 7, 2) := by decide +kernel
theorem dL_orders_242 : decode cL_orders 242 = .ok (.ishl, 1) := by decide +kernel
theorem dL_orders_243 : decode cL_orders 243 = .ok (.ior, 1) := by decide +kernel
theorem dL_orders_244 : decode cL_orders 244 = .ok (.istore 4, 2) := by decide +kernel
theorem dL_orders_246 : decode cL_orders 246 = .ok (.iinc 6 1, 3) := by decide +kernel
theorem dL_orders_249 : decode cL_orders 249 = .ok (.goto (-165), 3) := by decide +kernel
theorem dL_orders_252 : decode cL_orders 252 = .ok (.iload 5, 2) := by decide +kernel
theorem dL_orders_254 : decode cL_orders 254 = .ok (.ifCond .eq 16, 3) := by decide +kernel
theorem dL_orders_257 : decode cL_orders 257 = .ok (.iload_n 1, 1) := by decide +kernel
theorem dL_orders_258 : decode cL_orders 258 = .ok (.ifCond .eq 8, 3) := by decide +kernel
theorem dL_orders_261 : decode cL_orders 261 = .ok (.iload_n 3, 1) := by decide +kernel
theorem dL_orders_262 : decode cL_orders 262 = .ok (.iload_n 2, 1) := by decide +kernel
theorem dL_orders_263 : decode cL_orders 263 = .ok (.if_icmp .ne 7, 3) := by decide +kernel
theorem dL_orders_266 : decode cL_orders 266 = .ok (.iconst 1, 1) := by decide +kernel
theorem dL_orders_267 : decode cL_orders 267 = .ok (.goto 4, 3) := by decide +kernel
theorem dL_orders_270 : decode cL_orders 270 = .ok (.iconst 0, 1) := by decide +kernel
theorem dL_orders_271 : decode cL_orders 271 = .ok (.ireturn, 1) := by decide +kernel
def f_L_orders (x0_isReadingOld : Int32) (x1_size : Int32) (f2 : Nat → Int32) (f3 : Nat → Int32) (f4 : Nat → Int32) (f5 : Nat → Int32) (x6_size : Int32) (x7_areOrdersCounted : Int32) (x7_isAnyOrder : Int32) (x7_size : Int32) (f8 : Nat → Int32) (f9 : Nat → Int32) (f10 : Nat → Int32) (f11 : Nat → Int32) (f12 : Nat → Int32) (f13 : Nat → Int32) (f14 : Nat → Int32) : Option (Int32 × Int32 × Int32 × Int32 × Int32 × (Nat → Int32) × (Nat → Int32) × (Nat → Int32) × (Nat → Int32) × (Nat → Int32) × (Nat → Int32) × (Nat → Int32)) := (f_X4_count 0 x0_isReadingOld x1_size f2 f3 f4 f5 x6_size x7_areOrdersCounted x7_isAnyOrder x7_size f8 f9 f10 f11 f12 f13 f14).bind (u12 fun (r1 : Int32) (o2 : Int32) (o3 : Int32) (o4 : Int32) (o5 : Int32) (o6 : Nat → Int32) (o7 : Nat → Int32) (o8 : Nat → Int32) (o9 : Nat → Int32) (o10 : Nat → Int32) (o11 : Nat → Int32) (o12 : Nat → Int32) => (f_X4_count 4 o2 x1_size f2 f3 f4 f5 x6_size o3 o4 o5 o6 o7 o8 o9 o10 o11 o12).bind (u12 fun (r13 : Int32) (o14 : Int32) (o15 : Int32) (o16 : Int32) (o17 : Int32) (o18 : Nat → Int32) (o19 : Nat → Int32) (o20 : Nat → Int32) (o21 : Nat → Int32) (o22 : Nat → Int32) (o23 : Nat → Int32) (o24 : Nat → Int32) => (jn (u12 fun (w25 : Int32) (w26 : Int32) (w27 : Int32) (w28 : Int32) (w29 : Nat → Int32) (w30 : Nat → Int32) (w31 : Nat → Int32) (w32 : Nat → Int32) (w33 : Nat → Int32) (w34 : Nat → Int32) (w35 : Nat → Int32) (s36 : Int32) => (wl (u15 fun (l3_38 : Int32) (l4_39 : Int32) (l5_40 : Int32) (l6_41 : Int32) (w42 : Int32) (w43 : Int32) (w44 : Int32) (w45 : Int32) (w46 : Nat → Int32) (w47 : Nat → Int32) (w48 : Nat → Int32) (w49 : Nat → Int32) (w50 : Nat → Int32) (w51 : Nat → Int32) (w52 : Nat → Int32) => (if r1 ≤ l6_41 then some (Sum.inr (l3_38, l5_40, w42, w43, w44, w45, w46, w47, w48, w49, w50, w51, w52)) else (if l5_40 = 0 then some (Sum.inr (l3_38, l5_40, w42, w43, w44, w45, w46, w47, w48, w49, w50, w51, w52)) else (f_X4_order l6_41 w42 x1_size f2 f3 f4 f5 w43 w44 w45 w46 w47 w48 w49 w50 w51).bind (u11 fun (r66 : Int32) (o67 : Int32) (o68 : Int32) (o69 : Int32) (o70 : Int32) (o71 : Nat → Int32) (o72 : Nat → Int32) (o73 : Nat → Int32) (o74 : Nat → Int32) (o75 : Nat → Int32) (o76 : Nat → Int32) => (f_X4_place l6_41 2 o67 x1_size f2 f3 f4 f5 o68 o69 o70 o71 o72 o73 o74 o75 o76 w52).bind (u12 fun (r77 : Int32) (o78 : Int32) (o79 : Int32) (o80 : Int32) (o81 : Int32) (o82 : Nat → Int32) (o83 : Nat → Int32) (o84 : Nat → Int32) (o85 : Nat → Int32) (o86 : Nat → Int32) (o87 : Nat → Int32) (o88 : Nat → Int32) => (jn (u1 fun (s89 : Int32) => (jn (u1 fun (s91 : Int32) => (jn (u1 fun (s93 : Int32) => (jn (u13 fun (l4_95 : Int32) (l5_96 : Int32) (w97 : Int32) (w98 : Int32) (w99 : Int32) (w100 : Int32) (w101 : Nat → Int32) (w102 : Nat → Int32) (w103 : Nat → Int32) (w104 : Nat → Int32) (w105 : Nat → Int32) (w106 : Nat → Int32) (w107 : Nat → Int32) => some (Sum.inl ((l3_38 + r77), l4_95, l5_96, (l6_41 + 1), w97, w98, w99, w100, w101, w102, w103, w104, w105, w106, w107))) (fun K108 => (if r66 < 0 then K108 (l4_39, s93, o78, o79, o80, o81, o82, o83, o84, o85, o86, o87, o88) else (if s93 = 0 then K108 (l4_39, s93, o78, o79, o80, o81, o82, o83, o84, o85, o86, o87, o88) else (jn (u12 fun (w109 : Int32) (w110 : Int32) (w111 : Int32) (w112 : Int32) (w113 : Nat → Int32) (w114 : Nat → Int32) (w115 : Nat → Int32) (w116 : Nat → Int32) (w117 : Nat → Int32) (w118 : Nat → Int32) (w119 : Nat → Int32) (s120 : Int32) => (wl (u12 fun (l5_122 : Int32) (l8_123 : Int32) (w124 : Int32) (w125 : Int32) (w126 : Int32) (w127 : Int32) (w128 : Nat → Int32) (w129 : Nat → Int32) (w130 : Nat → Int32) (w131 : Nat → Int32) (w132 : Nat → Int32) (w133 : Nat → Int32) => (if l6_41 ≤ l8_123 then some (Sum.inr (l5_122, w124, w125, w126, w127, w128, w129, w130, w131, w132, w133)) else (if l5_122 = 0 then some (Sum.inr (l5_122, w124, w125, w126, w127, w128, w129, w130, w131, w132, w133)) else (f_X4_order l8_123 w124 x1_size f2 f3 f4 f5 w125 w126 w127 w128 w129 w130 w131 w132 w133).bind (u11 fun (r145 : Int32) (o146 : Int32) (o147 : Int32) (o148 : Int32) (o149 : Int32) (o150 : Nat → Int32) (o151 : Nat → Int32) (o152 : Nat → Int32) (o153 : Nat → Int32) (o154 : Nat → Int32) (o155 : Nat → Int32) => (f_X4_ahead r66 r145 x1_size f2 f3 f4 f5).bind (u1 fun (r156 : Int32) => (jn (u1 fun (s157 : Int32) => some (Sum.inl (s157, (l8_123 + 1), o146, o147, o148, o149, o150, o151, o152, o153, o154, o155))) (fun K158 => (if r156 = 0 then K158 1 else K158 0)))))))) 9999 (s120, 0, w109, w110, w111, w112, w113, w114, w115, w116, w117, w118)).bind (u11 fun (l5_134 : Int32) (w135 : Int32) (w136 : Int32) (w137 : Int32) (w138 : Int32) (w139 : Nat → Int32) (w140 : Nat → Int32) (w141 : Nat → Int32) (w142 : Nat → Int32) (w143 : Nat → Int32) (w144 : Nat → Int32) => K108 ((l4_39 ||| ((1 : Int32) <<< (r66 &&& 31))), l5_134, w135, w136, w137, w138, w139, w140, w141, w142, w143, w144, w119))) (fun K121 => jn (u11 fun (w159 : Int32) (w160 : Int32) (w161 : Int32) (w162 : Int32) (w163 : Nat → Int32) (w164 : Nat → Int32) (w165 : Nat → Int32) (w166 : Nat → Int32) (w167 : Nat → Int32) (w168 : Nat → Int32) (w169 : Nat → Int32) => K121 (w159, w160, w161, w162, w163, w164, w165, w166, w167, w168, w169, 0)) (fun K170 => (if ((l4_39 >>> (r66 &&& 31)) &&& 1) = 0 then (f_X4_place r66 0 o78 x1_size f2 f3 f4 f5 o79 o80 o81 o82 o83 o84 o85 o86 o87 o88).bind (u12 fun (r171 : Int32) (o172 : Int32) (o173 : Int32) (o174 : Int32) (o175 : Int32) (o176 : Nat → Int32) (o177 : Nat → Int32) (o178 : Nat → Int32) (o179 : Nat → Int32) (o180 : Nat → Int32) (o181 : Nat → Int32) (o182 : Nat → Int32) => (if l6_41 < r171 then K170 (o172, o173, o174, o175, o176, o177, o178, o179, o180, o181, o182) else (f_X4_place r66 1 o172 x1_size f2 f3 f4 f5 o173 o174 o175 o176 o177 o178 o179 o180 o181 o182).bind (u12 fun (r183 : Int32) (o184 : Int32) (o185 : Int32) (o186 : Int32) (o187 : Int32) (o188 : Nat → Int32) (o189 : Nat → Int32) (o190 : Nat → Int32) (o191 : Nat → Int32) (o192 : Nat → Int32) (o193 : Nat → Int32) (o194 : Nat → Int32) => (if r183 < l6_41 then K170 (o184, o185, o186, o187, o188, o189, o190, o191, o192, o193, o194) else K121 (o184, o185, o186, o187, o188, o189, o190, o191, o192, o193, o194, 1))))) else K170 (o78, o79, o80, o81, o82, o83, o84, o85, o86, o87, o88)))))))))) (fun K94 => (if s89 = s91 then K94 1 else K94 0)))) (fun K92 => (if r13 = 0 then K92 1 else K92 0)))) (fun K90 => (if r66 = (-1) then K90 1 else K90 0)))))))) 9999 (0, 0, s36, 0, w25, w26, w27, w28, w29, w30, w31, w32, w33, w34, w35)).bind (u13 fun (l3_53 : Int32) (l5_54 : Int32) (w55 : Int32) (w56 : Int32) (w57 : Int32) (w58 : Int32) (w59 : Nat → Int32) (w60 : Nat → Int32) (w61 : Nat → Int32) (w62 : Nat → Int32) (w63 : Nat → Int32) (w64 : Nat → Int32) (w65 : Nat → Int32) => (jn (u1 fun (s195 : Int32) => gB s195 (some (s195, w55, w56, w57, w58, w59, w60, w61, w62, w63, w64, w65))) (fun K196 => jn (u0 (K196 0)) (fun K197 => (if l5_54 = 0 then K197 () else (jn (u0 (K196 1)) (fun K198 => (if r1 = 0 then K198 () else (if l3_53 = r13 then K198 () else K197 ())))))))))) (fun K37 => jn (u11 fun (w199 : Int32) (w200 : Int32) (w201 : Int32) (w202 : Int32) (w203 : Nat → Int32) (w204 : Nat → Int32) (w205 : Nat → Int32) (w206 : Nat → Int32) (w207 : Nat → Int32) (w208 : Nat → Int32) (w209 : Nat → Int32) => K37 (w199, w200, w201, w202, w203, w204, w205, w206, w207, w208, w209, 0)) (fun K210 => (if r13 < 0 then K210 (o14, o15, o16, o17, o18, o19, o20, o21, o22, o23, o24) else (f_X4_count 3 o14 x1_size f2 f3 f4 f5 x6_size o15 o16 o17 o18 o19 o20 o21 o22 o23 o24).bind (u12 fun (r211 : Int32) (o212 : Int32) (o213 : Int32) (o214 : Int32) (o215 : Int32) (o216 : Nat → Int32) (o217 : Nat → Int32) (o218 : Nat → Int32) (o219 : Nat → Int32) (o220 : Nat → Int32) (o221 : Nat → Int32) (o222 : Nat → Int32) => (jn (u0 ((jn (u1 fun (s224 : Int32) => (f_X4_wrong 0 o212 x1_size f2 f3 f4 f5 o213 o214 o215 o216 o217 o218 o219 o220 o221 o222).bind (u12 fun (r226 : Int32) (o227 : Int32) (o228 : Int32) (o229 : Int32) (o230 : Int32) (o231 : Nat → Int32) (o232 : Nat → Int32) (o233 : Nat → Int32) (o234 : Nat → Int32) (o235 : Nat → Int32) (o236 : Nat → Int32) (o237 : Nat → Int32) => (jn (u1 fun (s238 : Int32) => (if s224 = s238 then (f_X4_wrong 0 o227 x1_size f2 f3 f4 f5 o228 o229 o230 o231 o232 o233 o234 o235 o236 o237).bind (u12 fun (r240 : Int32) (o241 : Int32) (o242 : Int32) (o243 : Int32) (o244 : Int32) (o245 : Nat → Int32) (o246 : Nat → Int32) (o247 : Nat → Int32) (o248 : Nat → Int32) (o249 : Nat → Int32) (o250 : Nat → Int32) (o251 : Nat → Int32) => (f_X4_wrong 1 o241 x1_size f2 f3 f4 f5 o242 o243 o244 o245 o246 o247 o248 o249 o250 o251).bind (u12 fun (r252 : Int32) (o253 : Int32) (o254 : Int32) (o255 : Int32) (o256 : Int32) (o257 : Nat → Int32) (o258 : Nat → Int32) (o259 : Nat → Int32) (o260 : Nat → Int32) (o261 : Nat → Int32) (o262 : Nat → Int32) (o263 : Nat → Int32) => (f_L_ones r252).bind (u1 fun (r264 : Int32) => (if r240 = r264 then K37 (o253, o254, o255, o256, o257, o258, o259, o260, o261, o262, o263, 1) else K210 (o253, o254, o255, o256, o257, o258, o259, o260, o261, o262, o263))))) else K210 (o227, o228, o229, o230, o231, o232, o233, o234, o235, o236, o237))) (fun K239 => (if r226 = 0 then K239 1 else K239 0))))) (fun K225 => (if r13 ≤ 0 then K225 0 else K225 1))))) (fun K223 => (if r211 = 0 then K223 () else (if r13 = 0 then K223 () else K210 (o212, o213, o214, o215, o216, o217, o218, o219, o220, o221, o222))))))))))))
theorem hd_L_orders : yL_orders.cls = RL ∧ yL_orders.cls ≠ "java/lang/invoke/MethodHandle" ∧ yL_orders.cls ≠ "java/lang/invoke/VarHandle" ∧ (parseMethodDescriptor yL_orders.desc).map (fun d => d.parameters.length) = some 1 := by decide +kernel
set_option maxRecDepth 100000 in
set_option maxHeartbeats 4000000 in
theorem c_L_orders (l : Launch) (D : va_G) (cI cS cL : ClassId) (a0 : Nat) (a1 : Nat) (a2 : Nat) (a3 : Nat) (a4 : Nat) (a5 : Nat) (a6 : Nat) (a7 : Nat) (a8 : Nat) (a9 : Nat) (a10 : Nat) (a11 : Nat) (a12 : Nat) (a13 : Nat) (a14 : Nat) (b0_1 : Nat) (b0_4 : Nat) (b0_5 : Nat) (b0_6 : Nat) (b6_0 : Nat) (x0_length : Int32) (x0_isReadingOld : Int32) (x1_size : Int32) (f2 : Nat → Int32) (f3 : Nat → Int32) (f4 : Nat → Int32) (f5 : Nat → Int32) (x6_size : Int32) (x7_areOrdersCounted : Int32) (x7_isAnyOrder : Int32) (x7_size : Int32) (f8 : Nat → Int32) (f9 : Nat → Int32) (f10 : Nat → Int32) (f11 : Nat → Int32) (f12 : Nat → Int32) (f13 : Nat → Int32) (f14 : Nat → Int32) (rr : Int32) (y0 : Int32) (y1 : Int32) (y2 : Int32) (y3 : Int32) (y4 : Nat → Int32) (y5 : Nat → Int32) (y6 : Nat → Int32) (y7 : Nat → Int32) (y8 : Nat → Int32) (y9 : Nat → Int32) (y10 : Nat → Int32) (hc : f_L_orders x0_isReadingOld x1_size f2 f3 f4 f5 x6_size x7_areOrdersCounted x7_isAnyOrder x7_size f8 f9 f10 f11 f12 f13 f14 = some (rr, y0, y1, y2, y3, y4, y5, y6, y7, y8, y9, y10)) : KM l yL_orders wsL_orders { frames := 6, cells := 0, slots := 0, locals := 132 } D (tyS cI cS cL) [.ref a0] [(a0, .inr (4, [.ref a1, .ref b0_1, .ref a6, .ref a7, .ref b0_4, .ref b0_5, .ref b0_6, .int x0_length, .int x0_isReadingOld])), (a1, .inr (2, [.ref a2, .ref a3, .ref a4, .ref a5, .int x1_size])), (a2, .inl (cI, 10, .inl f2)), (a3, .inl (cI, 10, .inl f3)), (a4, .inl (cI, 10, .inl f4)), (a5, .inl (cI, 10, .inl f5)), (a6, .inr (0, [.ref b6_0, .int x6_size])), (a7, .inr (1, [.ref a8, .ref a9, .ref a10, .ref a11, .ref a12, .ref a13, .ref a14, .int x7_areOrdersCounted, .int x7_isAnyOrder, .int x7_size])), (a8, .inl (cI, 10, .inl f8)), (a9, .inl (cI, 10, .inl f9)), (a10, .inl (cI, 10, .inl f10)), (a11, .inl (cI, 10, .inl f11)), (a12, .inl (cI, 10, .inl f12)), (a13, .inl (cI, 10, .inl f13)), (a14, .inl (cI, 1024, .inl f14))] (some (.int rr)) (fun w => w = [(a0, .inr (4, [.ref a1, .ref b0_1, .ref a6, .ref a7, .ref b0_4, .ref b0_5, .ref b0_6, .int x0_length, .int y0])), (a1, .inr (2, [.ref a2, .ref a3, .ref a4, .ref a5, .int x1_size])), (a2, .inl (cI, 10, .inl f2)), (a3, .inl (cI, 10, .inl f3)), (a4, .inl (cI, 10, .inl f4)), (a5, .inl (cI, 10, .inl f5)), (a6, .inr (0, [.ref b6_0, .int x6_size])), (a7, .inr (1, [.ref a8, .ref a9, .ref a10, .ref a11, .ref a12, .ref a13, .ref a14, .int y1, .int y2, .int y3])), (a8, .inl (cI, 10, .inl y4)), (a9, .inl (cI, 10, .inl y5)), (a10, .inl (cI, 10, .inl y6)), (a11, .inl (cI, 10, .inl y7)), (a12, .inl (cI, 10, .inl y8)), (a13, .inl (cI, 10, .inl y9)), (a14, .inl (cI, 1024, .inl y10))]) 0 0 := by
  refine g_entry (cc := cL_orders) (nL := 9) (rt := (some .boolean)) (by decide) rfl (Nat.le_of_ble_eq_true rfl) ?_
  intro p e s m args below meth c A (X : GC p s m args c cL_orders 9 RL wsL_orders D (tyS cI cS cL) A) hr hlk _ _
  have h := hc
  unfold f_L_orders at h
  refine g_lv (lv' := [(0, .ref a0)]) [0] rfl ?_
  refine g_aload_n X (j := 0) dL_orders_0 rfl ?_
  refine g_iconst (v := 0) X dL_orders_1 (by decide) ?_
  obtain ⟨r1, o2, o3, o4, o5, o6, o7, o8, o9, o10, o11, o12, hc, h⟩ := bd12 h
  refine g_callVF (q0 := 0) (ci := 4) (is := [0, 1, 2, 3, 4, 5, 6, 7, 8, 9, 10, 11, 12, 13, 14]) (isR := []) (wr := []) (As := [.int 0]) (st := []) X (c_X4_count l D cI cS cL a0 a1 a2 a3 a4 a5 a6 a7 a8 a9 a10 a11 a12 a13 a14 b0_1 b0_4 b0_5 b0_6 b6_0 0 x0_length x0_isReadingOld x1_size f2 f3 f4 f5 x6_size x7_areOrdersCounted x7_isAnyOrder x7_size f8 f9 f10 f11 f12 f13 f14 r1 o2 o3 o4 o5 o6 o7 o8 o9 o10 o11 o12 hc) gL_orders_X4_count rfl ⟨rfl, rfl⟩ hd_X4_count (by exact ⟨Nat.le_of_ble_eq_true rfl, Nat.le_of_ble_eq_true rfl⟩) ⟨Nat.zero_le _, Nat.zero_le _⟩ rfl rfl rfl (by decide +kernel) rfl (by decide +kernel) (by decide +kernel) rfl (Nat.le_of_ble_eq_true rfl) rfl dL_orders_2 ?_
  rintro _ rfl
  refine g_ws (ws' := [(a0, .inr (4, [.ref a1, .ref b0_1, .ref a6, .ref a7, .ref b0_4, .ref b0_5, .ref b0_6, .int x0_length, .int o2])), (a1, .inr (2, [.ref a2, .ref a3, .ref a4, .ref a5, .int x1_size])), (a2, .inl (cI, 10, .inl f2)), (a3, .inl (cI, 10, .inl f3)), (a4, .inl (cI, 10, .inl f4)), (a5, .inl (cI, 10, .inl f5)), (a6, .inr (0, [.ref b6_0, .int x6_size])), (a7, .inr (1, [.ref a8, .ref a9, .ref a10, .ref a11, .ref a12, .ref a13, .ref a14, .int o3, .int o4, .int o5])), (a8, .inl (cI, 10, .inl o6)), (a9, .inl (cI, 10, .inl o7)), (a10, .inl (cI, 10, .inl o8)), (a11, .inl (cI, 10, .inl o9)), (a12, .inl (cI, 10, .inl o10)), (a13, .inl (cI, 10, .inl o11)), (a14, .inl (cI, 1024, .inl o12))]) [0, 1, 2, 3, 4, 5, 6, 7, 8, 9, 10, 11, 12, 13, 14] rfl (by decide +kernel) ?_
  refine g_istore_n (lv' := [(1, .int r1), (0, .ref a0)]) X dL_orders_5 rfl (by decide) rfl ?_
  refine g_aload_n X (j := 1) dL_orders_6 rfl ?_
  refine g_iconst (v := 4) X dL_orders_7 (by decide) ?_
  obtain ⟨r13, o14, o15, o16, o17, o18, o19, o20, o21, o22, o23, o24, hc, h⟩ := bd12 h
  refine g_callVF (q0 := 0) (ci := 4) (is := [0, 1, 2, 3, 4, 5, 6, 7, 8, 9, 10, 11, 12, 13, 14]) (isR := []) (wr := []) (As := [.int 4]) (st := []) X (c_X4_count l D cI cS cL a0 a1 a2 a3 a4 a5 a6 a7 a8 a9 a10 a11 a12 a13 a14 b0_1 b0_4 b0_5 b0_6 b6_0 4 x0_length o2 x1_size f2 f3 f4 f5 x6_size o3 o4 o5 o6 o7 o8 o9 o10 o11 o12 r13 o14 o15 o16 o17 o18 o19 o20 o21 o22 o23 o24 hc) gL_orders_X4_count rfl ⟨rfl, rfl⟩ hd_X4_count (by exact ⟨Nat.le_of_ble_eq_true rfl, Nat.le_of_ble_eq_true rfl⟩) ⟨Nat.zero_le _, Nat.zero_le _⟩ rfl rfl rfl (by decide +kernel) rfl (by decide +kernel) (by decide +kernel) rfl (Nat.le_of_ble_eq_true rfl) rfl dL_orders_8 ?_
  rintro _ rfl
  refine g_ws (ws' := [(a0, .inr (4, [.ref a1, .ref b0_1, .ref a6, .ref a7, .ref b0_4, .ref b0_5, .ref b0_6, .int x0_length, .int o14])), (a1, .inr (2, [.ref a2, .ref a3, .ref a4, .ref a5, .int x1_size])), (a2, .inl (cI, 10, .inl f2)), (a3, .inl (cI, 10, .inl f3)), (a4, .inl (cI, 10, .inl f4)), (a5, .inl (cI, 10, .inl f5)), (a6, .inr (0, [.ref b6_0, .int x6_size])), (a7, .inr (1, [.ref a8, .ref a9, .ref a10, .ref a11, .ref a12, .ref a13, .ref a14, .int o15, .int o16, .int o17])), (a8, .inl (cI, 10, .inl o18)), (a9, .inl (cI, 10, .inl o19)), (a10, .inl (cI, 10, .inl o20)), (a11, .inl (cI, 10, .inl o21)), (a12, .inl (cI, 10, .inl o22)), (a13, .inl (cI, 10, .inl o23)), (a14, .inl (cI, 1024, .inl o24))]) [0, 1, 2, 3, 4, 5, 6, 7, 8, 9, 10, 11, 12, 13, 14] rfl (by decide +kernel) ?_
  refine g_istore_n (lv' := [(2, .int r13), (1, .int r1), (0, .ref a0)]) X dL_orders_11 rfl (by decide) rfl ?_
  refine g_iconst (v := 0) X dL_orders_12 (by decide) ?_
  refine g_istore_n (lv' := [(3, .int 0), (2, .int r13), (1, .int r1), (0, .ref a0)]) X dL_orders_13 rfl (by decide) rfl ?_
  refine g_iconst (v := 0) X dL_orders_14 (by decide) ?_
  refine g_istore (lv' := [(4, .int 0), (3, .int 0), (2, .int r13), (1, .int r1), (0, .ref a0)]) X dL_orders_15 (by decide) rfl ?_
  refine g_iload_n X (j := 2) dL_orders_17 rfl ?_
  refine jn_g h (u12 fun w25 w26 w27 w28 w29 w30 w31 w32 w33 w34 w35 s36 => [(a0, .inr (4, [.ref a1, .ref b0_1, .ref a6, .ref a7, .ref b0_4, .ref b0_5, .ref b0_6, .int x0_length, .int w25])), (a1, .inr (2, [.ref a2, .ref a3, .ref a4, .ref a5, .int x1_size])), (a2, .inl (cI, 10, .inl f2)), (a3, .inl (cI, 10, .inl f3)), (a4, .inl (cI, 10, .inl f4)), (a5, .inl (cI, 10, .inl f5)), (a6, .inr (0, [.ref b6_0, .int x6_size])), (a7, .inr (1, [.ref a8, .ref a9, .ref a10, .ref a11, .ref a12, .ref a13, .ref a14, .int w26, .int w27, .int w28])), (a8, .inl (cI, 10, .inl w29)), (a9, .inl (cI, 10, .inl w30)), (a10, .inl (cI, 10, .inl w31)), (a11, .inl (cI, 10, .inl w32)), (a12, .inl (cI, 10, .inl w33)), (a13, .inl (cI, 10, .inl w34)), (a14, .inl (cI, 1024, .inl w35))]) (u12 fun w25 w26 w27 w28 w29 w30 w31 w32 w33 w34 w35 s36 => [(0, .ref a0), (1, .int r1), (2, .int r13), (3, .int 0), (4, .int 0)]) (u12 fun w25 w26 w27 w28 w29 w30 w31 w32 w33 w34 w35 s36 => [.int s36]) 79 ?_ ?_
  · rintro ⟨w25, w26, w27, w28, w29, w30, w31, w32, w33, w34, w35, s36⟩ h
    dsimp only [u12] at h ⊢
    refine g_istore (lv' := [(5, .int s36), (0, .ref a0), (1, .int r1), (2, .int r13), (3, .int 0), (4, .int 0)]) X dL_orders_79 (by decide) rfl ?_
    refine g_iconst (v := 0) X dL_orders_81 (by decide) ?_
    refine g_istore (lv' := [(6, .int 0), (5, .int s36), (0, .ref a0), (1, .int r1), (2, .int r13), (3, .int 0), (4, .int 0)]) X dL_orders_82 (by decide) rfl ?_
    refine g_lv (lv' := [(0, .ref a0), (1, .int r1), (2, .int r13), (3, .int 0), (4, .int 0), (5, .int s36), (6, .int 0)]) [2, 3, 4, 5, 6, 1, 0] rfl ?_
    refine wl_g1 h (u15 fun l3_38 l4_39 l5_40 l6_41 w42 w43 w44 w45 w46 w47 w48 w49 w50 w51 w52 => [(a0, .inr (4, [.ref a1, .ref b0_1, .ref a6, .ref a7, .ref b0_4, .ref b0_5, .ref b0_6, .int x0_length, .int w42])), (a1, .inr (2, [.ref a2, .ref a3, .ref a4, .ref a5, .int x1_size])), (a2, .inl (cI, 10, .inl f2)), (a3, .inl (cI, 10, .inl f3)), (a4, .inl (cI, 10, .inl f4)), (a5, .inl (cI, 10, .inl f5)), (a6, .inr (0, [.ref b6_0, .int x6_size])), (a7, .inr (1, [.ref a8, .ref a9, .ref a10, .ref a11, .ref a12, .ref a13, .ref a14, .int w43, .int w44, .int w45])), (a8, .inl (cI, 10, .inl w46)), (a9, .inl (cI, 10, .inl w47)), (a10, .inl (cI, 10, .inl w48)), (a11, .inl (cI, 10, .inl w49)), (a12, .inl (cI, 10, .inl w50)), (a13, .inl (cI, 10, .inl w51)), (a14, .inl (cI, 1024, .inl w52))]) (u15 fun l3_38 l4_39 l5_40 l6_41 w42 w43 w44 w45 w46 w47 w48 w49 w50 w51 w52 => [(0, .ref a0), (1, .int r1), (2, .int r13), (3, .int l3_38), (4, .int l4_39), (5, .int l5_40), (6, .int l6_41)]) rfl rfl (u13 fun l3_53 l5_54 w55 w56 w57 w58 w59 w60 w61 w62 w63 w64 w65 => [(a0, .inr (4, [.ref a1, .ref b0_1, .ref a6, .ref a7, .ref b0_4, .ref b0_5, .ref b0_6, .int x0_length, .int w55])), (a1, .inr (2, [.ref a2, .ref a3, .ref a4, .ref a5, .int x1_size])), (a2, .inl (cI, 10, .inl f2)), (a3, .inl (cI, 10, .inl f3)), (a4, .inl (cI, 10, .inl f4)), (a5, .inl (cI, 10, .inl f5)), (a6, .inr (0, [.ref b6_0, .int x6_size])), (a7, .inr (1, [.ref a8, .ref a9, .ref a10, .ref a11, .ref a12, .ref a13, .ref a14, .int w56, .int w57, .int w58])), (a8, .inl (cI, 10, .inl w59)), (a9, .inl (cI, 10, .inl w60)), (a10, .inl (cI, 10, .inl w61)), (a11, .inl (cI, 10, .inl w62)), (a12, .inl (cI, 10, .inl w63)), (a13, .inl (cI, 10, .inl w64)), (a14, .inl (cI, 1024, .inl w65))]) (u13 fun l3_53 l5_54 w55 w56 w57 w58 w59 w60 w61 w62 w63 w64 w65 => [(1, .int r1), (2, .int r13), (3, .int l3_53), (5, .int l5_54)]) 252 ?_ ?_
    · rintro ⟨l3_53, l5_54, w55, w56, w57, w58, w59, w60, w61, w62, w63, w64, w65⟩ h
      dsimp only [u13] at h ⊢
      refine g_iload X (j := 3) dL_orders_252 rfl ?_
      refine jn_g h (u1 fun s195 => [(a0, .inr (4, [.ref a1, .ref b0_1, .ref a6, .ref a7, .ref b0_4, .ref b0_5, .ref b0_6, .int x0_length, .int w55])), (a1, .inr (2, [.ref a2, .ref a3, .ref a4, .ref a5, .int x1_size])), (a2, .inl (cI, 10, .inl f2)), (a3, .inl (cI, 10, .inl f3)), (a4, .inl (cI, 10, .inl f4)), (a5, .inl (cI, 10, .inl f5)), (a6, .inr (0, [.ref b6_0, .int x6_size])), (a7, .inr (1, [.ref a8, .ref a9, .ref a10, .ref a11, .ref a12, .ref a13, .ref a14, .int w56, .int w57, .int w58])), (a8, .inl (cI, 10, .inl w59)), (a9, .inl (cI, 10, .inl w60)), (a10, .inl (cI, 10, .inl w61)), (a11, .inl (cI, 10, .inl w62)), (a12, .inl (cI, 10, .inl w63)), (a13, .inl (cI, 10, .inl w64)), (a14, .inl (cI, 1024, .inl w65))]) (u1 fun s195 => []) (u1 fun s195 => [.int s195]) 271 ?_ ?_
      · rintro s195 h
        dsimp only [u1] at h ⊢
        obtain ⟨hz, h⟩ := gB_e h
        have h := Option.some.inj h
        simp only [Prod.mk.injEq] at h
        obtain ⟨rfl, rfl, rfl, rfl, rfl, rfl, rfl, rfl, rfl, rfl, rfl, rfl⟩ := h
        exact g_zret X hr hlk hz dL_orders_271 rfl rfl
      · intro K196 hK196 h
        refine jn_g h (u0 ([(a0, .inr (4, [.ref a1, .ref b0_1, .ref a6, .ref a7, .ref b0_4, .ref b0_5, .ref b0_6, .int x0_length, .int w55])), (a1, .inr (2, [.ref a2, .ref a3, .ref a4, .ref a5, .int x1_size])), (a2, .inl (cI, 10, .inl f2)), (a3, .inl (cI, 10, .inl f3)), (a4, .inl (cI, 10, .inl f4)), (a5, .inl (cI, 10, .inl f5)), (a6, .inr (0, [.ref b6_0, .int x6_size])), (a7, .inr (1, [.ref a8, .ref a9, .ref a10, .ref a11, .ref a12, .ref a13, .ref a14, .int w56, .int w57, .int w58])), (a8, .inl (cI, 10, .inl w59)), (a9, .inl (cI, 10, .inl w60)), (a10, .inl (cI, 10, .inl w61)), (a11, .inl (cI, 10, .inl w62)), (a12, .inl (cI, 10, .inl w63)), (a13, .inl (cI, 10, .inl w64)), (a14, .inl (cI, 1024, .inl w65))])) (u0 ([])) (u0 ([])) 270 ?_ ?_
        · rintro ⟨⟩ h
          dsimp only [u0] at h ⊢
          refine g_iconst (v := 0) X dL_orders_270 (by decide) ?_
          exact hK196 0 h
        · intro K197 hK197 h
          refine g_if_eq (tgt := 270) X h dL_orders_254 (by decide) (fun h => ?_) (fun h => ?_)
          · refine g_lv (lv' := []) [] rfl ?_
            exact hK197 () h
          · refine g_iload_n X (j := 0) dL_orders_257 rfl ?_
            refine jn_g h (u0 ([(a0, .inr (4, [.ref a1, .ref b0_1, .ref a6, .ref a7, .ref b0_4, .ref b0_5, .ref b0_6, .int x0_length, .int w55])), (a1, .inr (2, [.ref a2, .ref a3, .ref a4, .ref a5, .int x1_size])), (a2, .inl (cI, 10, .inl f2)), (a3, .inl (cI, 10, .inl f3)), (a4, .inl (cI, 10, .inl f4)), (a5, .inl (cI, 10, .inl f5)), (a6, .inr (0, [.ref b6_0, .int x6_size])), (a7, .inr (1, [.ref a8, .ref a9, .ref a10, .ref a11, .ref a12, .ref a13, .ref a14, .int w56, .int w57, .int w58])), (a8, .inl (cI, 10, .inl w59)), (a9, .inl (cI, 10, .inl w60)), (a10, .inl (cI, 10, .inl w61)), (a11, .inl (cI, 10, .inl w62)), (a12, .inl (cI, 10, .inl w63)), (a13, .inl (cI, 10, .inl w64)), (a14, .inl (cI, 1024, .inl w65))])) (u0 ([])) (u0 ([])) 266 ?_ ?_
            · rintro ⟨⟩ h
              dsimp only [u0] at h ⊢
              refine g_iconst (v := 1) X dL_orders_266 (by decide) ?_
              refine g_goto (tgt := 271) X dL_orders_267 (by decide) ?_
              exact hK196 1 h
            · intro K198 hK198 h
              refine g_if_eq (tgt := 266) X h dL_orders_258 (by decide) (fun h => ?_) (fun h => ?_)
              · refine g_lv (lv' := []) [] rfl ?_
                exact hK198 () h
              · refine g_iload_n X (j := 2) dL_orders_261 rfl ?_
                refine g_iload_n X (j := 1) dL_orders_262 rfl ?_
                refine g_icmp_ne (tgt := 270) X h dL_orders_263 (by decide) (fun h => ?_) (fun h => ?_)
                · refine g_lv (lv' := []) [] rfl ?_
                  exact hK197 () h
                · refine g_lv (lv' := []) [] rfl ?_
                  exact hK198 () h
    · rintro ⟨l3_38, l4_39, l5_40, l6_41, w42, w43, w44, w45, w46, w47, w48, w49, w50, w51, w52⟩ o h hI hE
      dsimp only [u15] at h ⊢
      refine g_iload X (j := 6) dL_orders_84 rfl ?_
      refine g_iload_n X (j := 1) dL_orders_86 rfl ?_
      refine g_icmp_ge (tgt := 252) X h dL_orders_87 (by decide) (fun h => ?_) (fun h => ?_)
      · refine g_lv (lv' := [(1, .int r1), (2, .int r13), (3, .int l3_38), (5, .int l5_40)]) [1, 2, 3, 5] rfl ?_
        exact hE (l3_38, l5_40, w42, w43, w44, w45, w46, w47, w48, w49, w50, w51, w52) (Option.some.inj h).symm
      · refine g_iload X (j := 5) dL_orders_90 rfl ?_
        refine g_if_eq (tgt := 252) X h dL_orders_92 (by decide) (fun h => ?_) (fun h => ?_)
        · refine g_lv (lv' := [(1, .int r1), (2, .int r13), (3, .int l3_38), (5, .int l5_40)]) [1, 2, 3, 5] rfl ?_
          exact hE (l3_38, l5_40, w42, w43, w44, w45, w46, w47, w48, w49, w50, w51, w52) (Option.some.inj h).symm
        · refine g_aload_n X (j := 0) dL_orders_95 rfl ?_
          refine g_iload X (j := 6) dL_orders_96 rfl ?_
          obtain ⟨r66, o67, o68, o69, o70, o71, o72, o73, o74, o75, o76, hc, h⟩ := bd11 h
          refine g_callV (q0 := 0) (ci := 4) (is := [0, 1, 2, 3, 4, 5, 7, 8, 9, 10, 11, 12, 13]) (As := [.int l6_41]) (ws' := [(a0, .inr (4, [.ref a1, .ref b0_1, .ref a6, .ref a7, .ref b0_4, .ref b0_5, .ref b0_6, .int x0_length, .int o67])), (a1, .inr (2, [.ref a2, .ref a3, .ref a4, .ref a5, .int x1_size])), (a2, .inl (cI, 10, .inl f2)), (a3, .inl (cI, 10, .inl f3)), (a4, .inl (cI, 10, .inl f4)), (a5, .inl (cI, 10, .inl f5)), (a6, .inr (0, [.ref b6_0, .int x6_size])), (a7, .inr (1, [.ref a8, .ref a9, .ref a10, .ref a11, .ref a12, .ref a13, .ref a14, .int o68, .int o69, .int o70])), (a8, .inl (cI, 10, .inl o71)), (a9, .inl (cI, 10, .inl o72)), (a10, .inl (cI, 10, .inl o73)), (a11, .inl (cI, 10, .inl o74)), (a12, .inl (cI, 10, .inl o75)), (a13, .inl (cI, 10, .inl o76)), (a14, .inl (cI, 1024, .inl w52))]) (st := []) X (c_X4_order l D cI cS cL a0 a1 a2 a3 a4 a5 a7 a8 a9 a10 a11 a12 a13 b0_1 a6 b0_4 b0_5 b0_6 a14 l6_41 x0_length w42 x1_size f2 f3 f4 f5 w43 w44 w45 w46 w47 w48 w49 w50 w51 r66 o67 o68 o69 o70 o71 o72 o73 o74 o75 o76 hc) gL_orders_X4_order rfl ⟨rfl, rfl⟩ hd_X4_order (by exact ⟨Nat.le_of_ble_eq_true rfl, Nat.le_of_ble_eq_true rfl⟩) ⟨Nat.zero_le _, Nat.zero_le _⟩ rfl rfl rfl rfl rfl rfl rfl (Nat.le_of_ble_eq_true rfl) rfl dL_orders_98 ?_
          refine g_istore (lv' := [(7, .int r66), (0, .ref a0), (1, .int r1), (2, .int r13), (3, .int l3_38), (4, .int l4_39), (5, .int l5_40), (6, .int l6_41)]) X dL_orders_101 (by decide) rfl ?_
          refine g_iload_n X (j := 4) dL_orders_103 rfl ?_
          refine g_aload_n X (j := 1) dL_orders_104 rfl ?_
          refine g_iload X (j := 7) dL_orders_105 rfl ?_
          refine g_iconst (v := 2) X dL_orders_107 (by decide) ?_
          obtain ⟨r77, o78, o79, o80, o81, o82, o83, o84, o85, o86, o87, o88, hc, h⟩ := bd12 h
          refine g_callV (q0 := 0) (ci := 4) (is := [0, 1, 2, 3, 4, 5, 7, 8, 9, 10, 11, 12, 13, 14]) (As := [.int l6_41, .int 2]) (ws' := [(a0, .inr (4, [.ref a1, .ref b0_1, .ref a6, .ref a7, .ref b0_4, .ref b0_5, .ref b0_6, .int x0_length, .int o78])), (a1, .inr (2, [.ref a2, .ref a3, .ref a4, .ref a5, .int x1_size])), (a2, .inl (cI, 10, .inl f2)), (a3, .inl (cI, 10, .inl f3)), (a4, .inl (cI, 10, .inl f4)), (a5, .inl (cI, 10, .inl f5)), (a6, .inr (0, [.ref b6_0, .int x6_size])), (a7, .inr (1, [.ref a8, .ref a9, .ref a10, .ref a11, .ref a12, .ref a13, .ref a14, .int o79, .int o80, .int o81])), (a8, .inl (cI, 10, .inl o82)), (a9, .inl (cI, 10, .inl o83)), (a10, .inl (cI, 10, .inl o84)), (a11, .inl (cI, 10, .inl o85)), (a12, .inl (cI, 10, .inl o86)), (a13, .inl (cI, 10, .inl o87)), (a14, .inl (cI, 1024, .inl o88))]) (st := [.int l3_38]) X (c_X4_place l D cI cS cL a0 a1 a2 a3 a4 a5 a7 a8 a9 a10 a11 a12 a13 a14 b0_1 a6 b0_4 b0_5 b0_6 l6_41 2 x0_length o67 x1_size f2 f3 f4 f5 o68 o69 o70 o71 o72 o73 o74 o75 o76 w52 r77 o78 o79 o80 o81 o82 o83 o84 o85 o86 o87 o88 hc) gL_orders_X4_place rfl ⟨rfl, rfl⟩ hd_X4_place (by exact ⟨Nat.le_of_ble_eq_true rfl, Nat.le_of_ble_eq_true rfl⟩) ⟨Nat.zero_le _, Nat.zero_le _⟩ rfl rfl rfl rfl rfl rfl rfl (Nat.le_of_ble_eq_true rfl) rfl dL_orders_108 ?_
          refine g_iadd X dL_orders_111 ?_
          refine g_istore_n (lv' := [(3, .int (l3_38 + r77)), (7, .int r66), (0, .ref a0), (1, .int r1), (2, .int r13), (4, .int l4_39), (5, .int l5_40), (6, .int l6_41)]) X dL_orders_112 rfl (by decide) rfl ?_
          refine g_iload X (j := 1) dL_orders_113 rfl ?_
          refine g_iconst (v := (-1)) X dL_orders_115 (by decide) ?_
          refine jn_g h (u1 fun s89 => [(a0, .inr (4, [.ref a1, .ref b0_1, .ref a6, .ref a7, .ref b0_4, .ref b0_5, .ref b0_6, .int x0_length, .int o78])), (a1, .inr (2, [.ref a2, .ref a3, .ref a4, .ref a5, .int x1_size])), (a2, .inl (cI, 10, .inl f2)), (a3, .inl (cI, 10, .inl f3)), (a4, .inl (cI, 10, .inl f4)), (a5, .inl (cI, 10, .inl f5)), (a6, .inr (0, [.ref b6_0, .int x6_size])), (a7, .inr (1, [.ref a8, .ref a9, .ref a10, .ref a11, .ref a12, .ref a13, .ref a14, .int o79, .int o80, .int o81])), (a8, .inl (cI, 10, .inl o82)), (a9, .inl (cI, 10, .inl o83)), (a10, .inl (cI, 10, .inl o84)), (a11, .inl (cI, 10, .inl o85)), (a12, .inl (cI, 10, .inl o86)), (a13, .inl (cI, 10, .inl o87)), (a14, .inl (cI, 1024, .inl o88))]) (u1 fun s89 => [(0, .ref a0), (1, .int r1), (2, .int r13), (3, .int (l3_38 + r77)), (4, .int l4_39), (6, .int l6_41), (7, .int r66)]) (u1 fun s89 => [.int s89]) 124 ?_ ?_
          · rintro s89 h
            dsimp only [u1] at h ⊢
            refine g_iload_n X (j := 2) dL_orders_124 rfl ?_
            refine jn_g h (u1 fun s91 => [(a0, .inr (4, [.ref a1, .ref b0_1, .ref a6, .ref a7, .ref b0_4, .ref b0_5, .ref b0_6, .int x0_length, .int o78])), (a1, .inr (2, [.ref a2, .ref a3, .ref a4, .ref a5, .int x1_size])), (a2, .inl (cI, 10, .inl f2)), (a3, .inl (cI, 10, .inl f3)), (a4, .inl (cI, 10, .inl f4)), (a5, .inl (cI, 10, .inl f5)), (a6, .inr (0, [.ref b6_0, .int x6_size])), (a7, .inr (1, [.ref a8, .ref a9, .ref a10, .ref a11, .ref a12, .ref a13, .ref a14, .int o79, .int o80, .int o81])), (a8, .inl (cI, 10, .inl o82)), (a9, .inl (cI, 10, .inl o83)), (a10, .inl (cI, 10, .inl o84)), (a11, .inl (cI, 10, .inl o85)), (a12, .inl (cI, 10, .inl o86)), (a13, .inl (cI, 10, .inl o87)), (a14, .inl (cI, 1024, .inl o88))]) (u1 fun s91 => [(0, .ref a0), (1, .int r1), (2, .int r13), (3, .int (l3_38 + r77)), (4, .int l4_39), (6, .int l6_41), (7, .int r66)]) (u1 fun s91 => [.int s91, .int s89]) 133 ?_ ?_
            · rintro s91 h
              dsimp only [u1] at h ⊢
              refine jn_g h (u1 fun s93 => [(a0, .inr (4, [.ref a1, .ref b0_1, .ref a6, .ref a7, .ref b0_4, .ref b0_5, .ref b0_6, .int x0_length, .int o78])), (a1, .inr (2, [.ref a2, .ref a3, .ref a4, .ref a5, .int x1_size])), (a2, .inl (cI, 10, .inl f2)), (a3, .inl (cI, 10, .inl f3)), (a4, .inl (cI, 10, .inl f4)), (a5, .inl (cI, 10, .inl f5)), (a6, .inr (0, [.ref b6_0, .int x6_size])), (a7, .inr (1, [.ref a8, .ref a9, .ref a10, .ref a11, .ref a12, .ref a13, .ref a14, .int o79, .int o80, .int o81])), (a8, .inl (cI, 10, .inl o82)), (a9, .inl (cI, 10, .inl o83)), (a10, .inl (cI, 10, .inl o84)), (a11, .inl (cI, 10, .inl o85)), (a12, .inl (cI, 10, .inl o86)), (a13, .inl (cI, 10, .inl o87)), (a14, .inl (cI, 1024, .inl o88))]) (u1 fun s93 => [(0, .ref a0), (1, .int r1), (2, .int r13), (3, .int (l3_38 + r77)), (4, .int l4_39), (6, .int l6_41), (7, .int r66)]) (u1 fun s93 => [.int s93]) 141 ?_ ?_
              · rintro s93 h
                dsimp only [u1] at h ⊢
                refine g_istore (lv' := [(5, .int s93), (0, .ref a0), (1, .int r1), (2, .int r13), (3, .int (l3_38 + r77)), (4, .int l4_39), (6, .int l6_41), (7, .int r66)]) X dL_orders_141 (by decide) rfl ?_
                refine g_iload X (j := 7) dL_orders_143 rfl ?_
                refine jn_g h (u13 fun l4_95 l5_96 w97 w98 w99 w100 w101 w102 w103 w104 w105 w106 w107 => [(a0, .inr (4, [.ref a1, .ref b0_1, .ref a6, .ref a7, .ref b0_4, .ref b0_5, .ref b0_6, .int x0_length, .int w97])), (a1, .inr (2, [.ref a2, .ref a3, .ref a4, .ref a5, .int x1_size])), (a2, .inl (cI, 10, .inl f2)), (a3, .inl (cI, 10, .inl f3)), (a4, .inl (cI, 10, .inl f4)), (a5, .inl (cI, 10, .inl f5)), (a6, .inr (0, [.ref b6_0, .int x6_size])), (a7, .inr (1, [.ref a8, .ref a9, .ref a10, .ref a11, .ref a12, .ref a13, .ref a14, .int w98, .int w99, .int w100])), (a8, .inl (cI, 10, .inl w101)), (a9, .inl (cI, 10, .inl w102)), (a10, .inl (cI, 10, .inl w103)), (a11, .inl (cI, 10, .inl w104)), (a12, .inl (cI, 10, .inl w105)), (a13, .inl (cI, 10, .inl w106)), (a14, .inl (cI, 1024, .inl w107))]) (u13 fun l4_95 l5_96 w97 w98 w99 w100 w101 w102 w103 w104 w105 w106 w107 => [(0, .ref a0), (1, .int r1), (2, .int r13), (3, .int (l3_38 + r77)), (4, .int l4_95), (5, .int l5_96), (6, .int l6_41)]) (u13 fun l4_95 l5_96 w97 w98 w99 w100 w101 w102 w103 w104 w105 w106 w107 => []) 246 ?_ ?_
                · rintro ⟨l4_95, l5_96, w97, w98, w99, w100, w101, w102, w103, w104, w105, w106, w107⟩ h
                  dsimp only [u13] at h ⊢
                  refine g_iinc (j := 6) (lv' := [(6, .int (l6_41 + 1)), (0, .ref a0), (1, .int r1), (2, .int r13), (3, .int (l3_38 + r77)), (4, .int l4_95), (5, .int l5_96)]) X (l6_41 + 1) dL_orders_246 rfl rfl (by decide) rfl ?_
                  refine g_goto (tgt := 84) X dL_orders_249 (by decide) ?_
                  refine g_lv (lv' := [(0, .ref a0), (1, .int r1), (2, .int r13), (3, .int (l3_38 + r77)), (4, .int l4_95), (5, .int l5_96), (6, .int (l6_41 + 1))]) [1, 2, 3, 4, 5, 6, 0] rfl ?_
                  exact hI ((l3_38 + r77), l4_95, l5_96, (l6_41 + 1), w97, w98, w99, w100, w101, w102, w103, w104, w105, w106, w107) (Option.some.inj h).symm
                · intro K108 hK108 h
                  refine g_if_lt (tgt := 246) X h dL_orders_145 (by decide) (fun h => ?_) (fun h => ?_)
                  · refine g_lv (lv' := [(0, .ref a0), (1, .int r1), (2, .int r13), (3, .int (l3_38 + r77)), (4, .int l4_39), (5, .int s93), (6, .int l6_41)]) [1, 2, 3, 4, 5, 0, 6] rfl ?_
                    exact hK108 (l4_39, s93, o78, o79, o80, o81, o82, o83, o84, o85, o86, o87, o88) h
                  · refine g_iload X (j := 0) dL_orders_148 rfl ?_
                    refine g_if_eq (tgt := 246) X h dL_orders_150 (by decide) (fun h => ?_) (fun h => ?_)
                    · refine g_lv (lv' := [(0, .ref a0), (1, .int r1), (2, .int r13), (3, .int (l3_38 + r77)), (4, .int l4_39), (5, .int s93), (6, .int l6_41)]) [1, 2, 3, 4, 5, 0, 6] rfl ?_
                      exact hK108 (l4_39, s93, o78, o79, o80, o81, o82, o83, o84, o85, o86, o87, o88) h
                    · refine g_iload X (j := 5) dL_orders_153 rfl ?_
                      refine g_iload X (j := 7) dL_orders_155 rfl ?_
                      refine g_ishr X dL_orders_157 ?_
                      refine g_iconst (v := 1) X dL_orders_158 (by decide) ?_
                      refine g_iand X dL_orders_159 ?_
                      refine jn_g h (u12 fun w109 w110 w111 w112 w113 w114 w115 w116 w117 w118 w119 s120 => [(a0, .inr (4, [.ref a1, .ref b0_1, .ref a6, .ref a7, .ref b0_4, .ref b0_5, .ref b0_6, .int x0_length, .int w109])), (a1, .inr (2, [.ref a2, .ref a3, .ref a4, .ref a5, .int x1_size])), (a2, .inl (cI, 10, .inl f2)), (a3, .inl (cI, 10, .inl f3)), (a4, .inl (cI, 10, .inl f4)), (a5, .inl (cI, 10, .inl f5)), (a6, .inr (0, [.ref b6_0, .int x6_size])), (a7, .inr (1, [.ref a8, .ref a9, .ref a10, .ref a11, .ref a12, .ref a13, .ref a14, .int w110, .int w111, .int w112])), (a8, .inl (cI, 10, .inl w113)), (a9, .inl (cI, 10, .inl w114)), (a10, .inl (cI, 10, .inl w115)), (a11, .inl (cI, 10, .inl w116)), (a12, .inl (cI, 10, .inl w117)), (a13, .inl (cI, 10, .inl w118)), (a14, .inl (cI, 1024, .inl w119))]) (u12 fun w109 w110 w111 w112 w113 w114 w115 w116 w117 w118 w119 s120 => [(0, .ref a0), (1, .int r1), (2, .int r13), (3, .int (l3_38 + r77)), (4, .int l4_39), (6, .int l6_41), (7, .int r66)]) (u12 fun w109 w110 w111 w112 w113 w114 w115 w116 w117 w118 w119 s120 => [.int s120]) 192 ?_ ?_
                      · rintro ⟨w109, w110, w111, w112, w113, w114, w115, w116, w117, w118, w119, s120⟩ h
                        dsimp only [u12] at h ⊢
                        refine g_istore (lv' := [(5, .int s120), (0, .ref a0), (1, .int r1), (2, .int r13), (3, .int (l3_38 + r77)), (4, .int l4_39), (6, .int l6_41), (7, .int r66)]) X dL_orders_192 (by decide) rfl ?_
                        refine g_iconst (v := 0) X dL_orders_194 (by decide) ?_
                        refine g_istore (lv' := [(8, .int 0), (5, .int s120), (0, .ref a0), (1, .int r1), (2, .int r13), (3, .int (l3_38 + r77)), (4, .int l4_39), (6, .int l6_41), (7, .int r66)]) X dL_orders_195 (by decide) rfl ?_
                        refine g_lv (lv' := [(0, .ref a0), (1, .int r1), (2, .int r13), (3, .int (l3_38 + r77)), (4, .int l4_39), (5, .int s120), (6, .int l6_41), (7, .int r66), (8, .int 0)]) [2, 3, 4, 5, 6, 1, 7, 8, 0] rfl ?_
                        refine wl_g1 h (u12 fun l5_122 l8_123 w124 w125 w126 w127 w128 w129 w130 w131 w132 w133 => [(a0, .inr (4, [.ref a1, .ref b0_1, .ref a6, .ref a7, .ref b0_4, .ref b0_5, .ref b0_6, .int x0_length, .int w124])), (a1, .inr (2, [.ref a2, .ref a3, .ref a4, .ref a5, .int x1_size])), (a2, .inl (cI, 10, .inl f2)), (a3, .inl (cI, 10, .inl f3)), (a4, .inl (cI, 10, .inl f4)), (a5, .inl (cI, 10, .inl f5)), (a6, .inr (0, [.ref b6_0, .int x6_size])), (a7, .inr (1, [.ref a8, .ref a9, .ref a10, .ref a11, .ref a12, .ref a13, .ref a14, .int w125, .int w126, .int w127])), (a8, .inl (cI, 10, .inl w128)), (a9, .inl (cI, 10, .inl w129)), (a10, .inl (cI, 10, .inl w130)), (a11, .inl (cI, 10, .inl w131)), (a12, .inl (cI, 10, .inl w132)), (a13, .inl (cI, 10, .inl w133)), (a14, .inl (cI, 1024, .inl w119))]) (u12 fun l5_122 l8_123 w124 w125 w126 w127 w128 w129 w130 w131 w132 w133 => [(0, .ref a0), (1, .int r1), (2, .int r13), (3, .int (l3_38 + r77)), (4, .int l4_39), (5, .int l5_122), (6, .int l6_41), (7, .int r66), (8, .int l8_123)]) rfl rfl (u11 fun l5_134 w135 w136 w137 w138 w139 w140 w141 w142 w143 w144 => [(a0, .inr (4, [.ref a1, .ref b0_1, .ref a6, .ref a7, .ref b0_4, .ref b0_5, .ref b0_6, .int x0_length, .int w135])), (a1, .inr (2, [.ref a2, .ref a3, .ref a4, .ref a5, .int x1_size])), (a2, .inl (cI, 10, .inl f2)), (a3, .inl (cI, 10, .inl f3)), (a4, .inl (cI, 10, .inl f4)), (a5, .inl (cI, 10, .inl f5)), (a6, .inr (0, [.ref b6_0, .int x6_size])), (a7, .inr (1, [.ref a8, .ref a9, .ref a10, .ref a11, .ref a12, .ref a13, .ref a14, .int w136, .int w137, .int w138])), (a8, .inl (cI, 10, .inl w139)), (a9, .inl (cI, 10, .inl w140)), (a10, .inl (cI, 10, .inl w141)), (a11, .inl (cI, 10, .inl w142)), (a12, .inl (cI, 10, .inl w143)), (a13, .inl (cI, 10, .inl w144)), (a14, .inl (cI, 1024, .inl w119))]) (u11 fun l5_134 w135 w136 w137 w138 w139 w140 w141 w142 w143 w144 => [(0, .ref a0), (1, .int r1), (2, .int r13), (3, .int (l3_38 + r77)), (4, .int l4_39), (5, .int l5_134), (6, .int l6_41), (7, .int r66)]) 237 ?_ ?_
                        · rintro ⟨l5_134, w135, w136, w137, w138, w139, w140, w141, w142, w143, w144⟩ h
                          dsimp only [u11] at h ⊢
                          refine g_iload X (j := 4) dL_orders_237 rfl ?_
                          refine g_iconst (v := 1) X dL_orders_239 (by decide) ?_
                          refine g_iload X (j := 7) dL_orders_240 rfl ?_
                          refine g_ishl X dL_orders_242 ?_
                          refine g_ior X dL_orders_243 ?_
                          refine g_istore (lv' := [(4, .int (l4_39 ||| ((1 : Int32) <<< (r66 &&& 31)))), (0, .ref a0), (1, .int r1), (2, .int r13), (3, .int (l3_38 + r77)), (5, .int l5_134), (6, .int l6_41), (7, .int r66)]) X dL_orders_244 (by decide) rfl ?_
                          refine g_lv (lv' := [(0, .ref a0), (1, .int r1), (2, .int r13), (3, .int (l3_38 + r77)), (4, .int (l4_39 ||| ((1 : Int32) <<< (r66 &&& 31)))), (5, .int l5_134), (6, .int l6_41)]) [1, 2, 3, 4, 0, 5, 6] rfl ?_
                          exact hK108 ((l4_39 ||| ((1 : Int32) <<< (r66 &&& 31))), l5_134, w135, w136, w137, w138, w139, w140, w141, w142, w143, w144, w119) h
                        · rintro ⟨l5_122, l8_123, w124, w125, w126, w127, w128, w129, w130, w131, w132, w133⟩ o h hI hE
                          dsimp only [u12] at h ⊢
                          refine g_iload X (j := 8) dL_orders_197 rfl ?_
                          refine g_iload X (j := 6) dL_orders_199 rfl ?_
                          refine g_icmp_ge (tgt := 237) X h dL_orders_201 (by decide) (fun h => ?_) (fun h => ?_)
                          · refine g_lv (lv' := [(0, .ref a0), (1, .int r1), (2, .int r13), (3, .int (l3_38 + r77)), (4, .int l4_39), (5, .int l5_122), (6, .int l6_41), (7, .int r66)]) [0, 1, 2, 3, 4, 5, 6, 7] rfl ?_
                            exact hE (l5_122, w124, w125, w126, w127, w128, w129, w130, w131, w132, w133) (Option.some.inj h).symm
                          · refine g_iload X (j := 5) dL_orders_204 rfl ?_
                            refine g_if_eq (tgt := 237) X h dL_orders_206 (by decide) (fun h => ?_) (fun h => ?_)
                            · refine g_lv (lv' := [(0, .ref a0), (1, .int r1), (2, .int r13), (3, .int (l3_38 + r77)), (4, .int l4_39), (5, .int l5_122), (6, .int l6_41), (7, .int r66)]) [0, 1, 2, 3, 4, 5, 6, 7] rfl ?_
                              exact hE (l5_122, w124, w125, w126, w127, w128, w129, w130, w131, w132, w133) (Option.some.inj h).symm
                            · refine g_aload_n X (j := 0) dL_orders_209 rfl ?_
                              refine g_iload X (j := 7) dL_orders_210 rfl ?_
                              refine g_aload_n X (j := 0) dL_orders_212 rfl ?_
                              refine g_iload X (j := 8) dL_orders_213 rfl ?_
                              obtain ⟨r145, o146, o147, o148, o149, o150, o151, o152, o153, o154, o155, hc, h⟩ := bd11 h
                              refine g_callV (q0 := 0) (ci := 4) (is := [0, 1, 2, 3, 4, 5, 7, 8, 9, 10, 11, 12, 13]) (As := [.int l8_123]) (ws' := [(a0, .inr (4, [.ref a1, .ref b0_1, .ref a6, .ref a7, .ref b0_4, .ref b0_5, .ref b0_6, .int x0_length, .int o146])), (a1, .inr (2, [.ref a2, .ref a3, .ref a4, .ref a5, .int x1_size])), (a2, .inl (cI, 10, .inl f2)), (a3, .inl (cI, 10, .inl f3)), (a4, .inl (cI, 10, .inl f4)), (a5, .inl (cI, 10, .inl f5)), (a6, .inr (0, [.ref b6_0, .int x6_size])), (a7, .inr (1, [.ref a8, .ref a9, .ref a10, .ref a11, .ref a12, .ref a13, .ref a14, .int o147, .int o148, .int o149])), (a8, .inl (cI, 10, .inl o150)), (a9, .inl (cI, 10, .inl o151)), (a10, .inl (cI, 10, .inl o152)), (a11, .inl (cI, 10, .inl o153)), (a12, .inl (cI, 10, .inl o154)), (a13, .inl (cI, 10, .inl o155)), (a14, .inl (cI, 1024, .inl w119))]) (st := [.int r66, .ref a0]) X (c_X4_order l D cI cS cL a0 a1 a2 a3 a4 a5 a7 a8 a9 a10 a11 a12 a13 b0_1 a6 b0_4 b0_5 b0_6 a14 l8_123 x0_length w124 x1_size f2 f3 f4 f5 w125 w126 w127 w128 w129 w130 w131 w132 w133 r145 o146 o147 o148 o149 o150 o151 o152 o153 o154 o155 hc) gL_orders_X4_order rfl ⟨rfl, rfl⟩ hd_X4_order (by exact ⟨Nat.le_of_ble_eq_true rfl, Nat.le_of_ble_eq_true rfl⟩) ⟨Nat.zero_le _, Nat.zero_le _⟩ rfl rfl rfl rfl rfl rfl rfl (Nat.le_of_ble_eq_true rfl) rfl dL_orders_215 ?_
                              obtain ⟨r156, hc, h⟩ := bd1 h
                              refine g_callV (q0 := 0) (ci := 4) (is := [0, 1, 2, 3, 4, 5]) (As := [.int r66, .int r145]) (ws' := [(a0, .inr (4, [.ref a1, .ref b0_1, .ref a6, .ref a7, .ref b0_4, .ref b0_5, .ref b0_6, .int x0_length, .int o146])), (a1, .inr (2, [.ref a2, .ref a3, .ref a4, .ref a5, .int x1_size])), (a2, .inl (cI, 10, .inl f2)), (a3, .inl (cI, 10, .inl f3)), (a4, .inl (cI, 10, .inl f4)), (a5, .inl (cI, 10, .inl f5)), (a6, .inr (0, [.ref b6_0, .int x6_size])), (a7, .inr (1, [.ref a8, .ref a9, .ref a10, .ref a11, .ref a12, .ref a13, .ref a14, .int o147, .int o148, .int o149])), (a8, .inl (cI, 10, .inl o150)), (a9, .inl (cI, 10, .inl o151)), (a10, .inl (cI, 10, .inl o152)), (a11, .inl (cI, 10, .inl o153)), (a12, .inl (cI, 10, .inl o154)), (a13, .inl (cI, 10, .inl o155)), (a14, .inl (cI, 1024, .inl w119))]) (st := []) X (c_X4_ahead l D cI cS cL a0 a1 a2 a3 a4 a5 b0_1 a6 a7 b0_4 b0_5 b0_6 r66 r145 x0_length o146 x1_size f2 f3 f4 f5 r156 hc) gL_orders_X4_ahead rfl ⟨rfl, rfl⟩ hd_X4_ahead (by exact ⟨Nat.le_of_ble_eq_true rfl, Nat.le_of_ble_eq_true rfl⟩) ⟨Nat.zero_le _, Nat.zero_le _⟩ rfl rfl rfl rfl rfl rfl rfl (Nat.le_of_ble_eq_true rfl) rfl dL_orders_218 ?_
                              refine jn_g h (u1 fun s157 => [(a0, .inr (4, [.ref a1, .ref b0_1, .ref a6, .ref a7, .ref b0_4, .ref b0_5, .ref b0_6, .int x0_length, .int o146])), (a1, .inr (2, [.ref a2, .ref a3, .ref a4, .ref a5, .int x1_size])), (a2, .inl (cI, 10, .inl f2)), (a3, .inl (cI, 10, .inl f3)), (a4, .inl (cI, 10, .inl f4)), (a5, .inl (cI, 10, .inl f5)), (a6, .inr (0, [.ref b6_0, .int x6_size])), (a7, .inr (1, [.ref a8, .ref a9, .ref a10, .ref a11, .ref a12, .ref a13, .ref a14, .int o147, .int o148, .int o149])), (a8, .inl (cI, 10, .inl o150)), (a9, .inl (cI, 10, .inl o151)), (a10, .inl (cI, 10, .inl o152)), (a11, .inl (cI, 10, .inl o153)), (a12, .inl (cI, 10, .inl o154)), (a13, .inl (cI, 10, .inl o155)), (a14, .inl (cI, 1024, .inl w119))]) (u1 fun s157 => [(0, .ref a0), (1, .int r1), (2, .int r13), (3, .int (l3_38 + r77)), (4, .int l4_39), (6, .int l6_41), (7, .int r66), (8, .int l8_123)]) (u1 fun s157 => [.int s157]) 229 ?_ ?_
                              · rintro s157 h
                                dsimp only [u1] at h ⊢
                                refine g_istore (lv' := [(5, .int s157), (0, .ref a0), (1, .int r1), (2, .int r13), (3, .int (l3_38 + r77)), (4, .int l4_39), (6, .int l6_41), (7, .int r66), (8, .int l8_123)]) X dL_orders_229 (by decide) rfl ?_
                                refine g_iinc (j := 8) (lv' := [(8, .int (l8_123 + 1)), (5, .int s157), (0, .ref a0), (1, .int r1), (2, .int r13), (3, .int (l3_38 + r77)), (4, .int l4_39), (6, .int l6_41), (7, .int r66)]) X (l8_123 + 1) dL_orders_231 rfl rfl (by decide) rfl ?_
                                refine g_goto (tgt := 197) X dL_orders_234 (by decide) ?_
                                refine g_lv (lv' := [(0, .ref a0), (1, .int r1), (2, .int r13), (3, .int (l3_38 + r77)), (4, .int l4_39), (5, .int s157), (6, .int l6_41), (7, .int r66), (8, .int (l8_123 + 1))]) [2, 3, 4, 5, 6, 1, 7, 8, 0] rfl ?_
                                exact hI (s157, (l8_123 + 1), o146, o147, o148, o149, o150, o151, o152, o153, o154, o155) (Option.some.inj h).symm
                              · intro K158 hK158 h
                                refine g_if_ne (tgt := 228) X h dL_orders_221 (by decide) (fun h => ?_) (fun h => ?_)
                                · refine g_iconst (v := 0) X dL_orders_228 (by decide) ?_
                                  refine g_lv (lv' := [(0, .ref a0), (1, .int r1), (2, .int r13), (3, .int (l3_38 + r77)), (4, .int l4_39), (6, .int l6_41), (7, .int r66), (8, .int l8_123)]) [0, 1, 2, 3, 4, 6, 7, 8] rfl ?_
                                  exact hK158 0 h
                                · refine g_iconst (v := 1) X dL_orders_224 (by decide) ?_
                                  refine g_goto (tgt := 229) X dL_orders_225 (by decide) ?_
                                  refine g_lv (lv' := [(0, .ref a0), (1, .int r1), (2, .int r13), (3, .int (l3_38 + r77)), (4, .int l4_39), (6, .int l6_41), (7, .int r66), (8, .int l8_123)]) [0, 1, 2, 3, 4, 6, 7, 8] rfl ?_
                                  exact hK158 1 h
                      · intro K121 hK121 h
                        refine jn_g h (u11 fun w159 w160 w161 w162 w163 w164 w165 w166 w167 w168 w169 => [(a0, .inr (4, [.ref a1, .ref b0_1, .ref a6, .ref a7, .ref b0_4, .ref b0_5, .ref b0_6, .int x0_length, .int w159])), (a1, .inr (2, [.ref a2, .ref a3, .ref a4, .ref a5, .int x1_size])), (a2, .inl (cI, 10, .inl f2)), (a3, .inl (cI, 10, .inl f3)), (a4, .inl (cI, 10, .inl f4)), (a5, .inl (cI, 10, .inl f5)), (a6, .inr (0, [.ref b6_0, .int x6_size])), (a7, .inr (1, [.ref a8, .ref a9, .ref a10, .ref a11, .ref a12, .ref a13, .ref a14, .int w160, .int w161, .int w162])), (a8, .inl (cI, 10, .inl w163)), (a9, .inl (cI, 10, .inl w164)), (a10, .inl (cI, 10, .inl w165)), (a11, .inl (cI, 10, .inl w166)), (a12, .inl (cI, 10, .inl w167)), (a13, .inl (cI, 10, .inl w168)), (a14, .inl (cI, 1024, .inl w169))]) (u11 fun w159 w160 w161 w162 w163 w164 w165 w166 w167 w168 w169 => [(0, .ref a0), (1, .int r1), (2, .int r13), (3, .int (l3_38 + r77)), (4, .int l4_39), (6, .int l6_41), (7, .int r66)]) (u11 fun w159 w160 w161 w162 w163 w164 w165 w166 w167 w168 w169 => []) 191 ?_ ?_
                        · rintro ⟨w159, w160, w161, w162, w163, w164, w165, w166, w167, w168, w169⟩ h
                          dsimp only [u11] at h ⊢
                          refine g_iconst (v := 0) X dL_orders_191 (by decide) ?_
                          exact hK121 (w159, w160, w161, w162, w163, w164, w165, w166, w167, w168, w169, 0) h
                        · intro K170 hK170 h
                          refine g_if_ne (tgt := 191) X h dL_orders_160 (by decide) (fun h => ?_) (fun h => ?_)
                          · refine g_lv (lv' := [(0, .ref a0), (1, .int r1), (2, .int r13), (3, .int (l3_38 + r77)), (4, .int l4_39), (6, .int l6_41), (7, .int r66)]) [1, 2, 3, 4, 5, 6, 7] rfl ?_
                            exact hK170 (o78, o79, o80, o81, o82, o83, o84, o85, o86, o87, o88) h
                          · refine g_aload_n X (j := 1) dL_orders_163 rfl ?_
                            refine g_iload X (j := 7) dL_orders_164 rfl ?_
                            refine g_iconst (v := 0) X dL_orders_166 (by decide) ?_
                            obtain ⟨r171, o172, o173, o174, o175, o176, o177, o178, o179, o180, o181, o182, hc, h⟩ := bd12 h
                            refine g_callV (q0 := 0) (ci := 4) (is := [0, 1, 2, 3, 4, 5, 7, 8, 9, 10, 11, 12, 13, 14]) (As := [.int r66, .int 0]) (ws' := [(a0, .inr (4, [.ref a1, .ref b0_1, .ref a6, .ref a7, .ref b0_4, .ref b0_5, .ref b0_6, .int x0_length, .int o172])), (a1, .inr (2, [.ref a2, .ref a3, .ref a4, .ref a5, .int x1_size])), (a2, .inl (cI, 10, .inl f2)), (a3, .inl (cI, 10, .inl f3)), (a4, .inl (cI, 10, .inl f4)), (a5, .inl (cI, 10, .inl f5)), (a6, .inr (0, [.ref b6_0, .int x6_size])), (a7, .inr (1, [.ref a8, .ref a9, .ref a10, .ref a11, .ref a12, .ref a13, .ref a14, .int o173, .int o174, .int o175])), (a8, .inl (cI, 10, .inl o176)), (a9, .inl (cI, 10, .inl o177)), (a10, .inl (cI, 10, .inl o178)), (a11, .inl (cI, 10, .inl o179)), (a12, .inl (cI, 10, .inl o180)), (a13, .inl (cI, 10, .inl o181)), (a14, .inl (cI, 1024, .inl o182))]) (st := []) X (c_X4_place l D cI cS cL a0 a1 a2 a3 a4 a5 a7 a8 a9 a10 a11 a12 a13 a14 b0_1 a6 b0_4 b0_5 b0_6 r66 0 x0_length o78 x1_size f2 f3 f4 f5 o79 o80 o81 o82 o83 o84 o85 o86 o87 o88 r171 o172 o173 o174 o175 o176 o177 o178 o179 o180 o181 o182 hc) gL_orders_X4_place rfl ⟨rfl, rfl⟩ hd_X4_place (by exact ⟨Nat.le_of_ble_eq_true rfl, Nat.le_of_ble_eq_true rfl⟩) ⟨Nat.zero_le _, Nat.zero_le _⟩ rfl rfl rfl rfl rfl rfl rfl (Nat.le_of_ble_eq_true rfl) rfl dL_orders_167 ?_
                            refine g_iload X (j := 6) dL_orders_170 rfl ?_
                            refine g_icmp_gt (tgt := 191) X h dL_orders_172 (by decide) (fun h => ?_) (fun h => ?_)
                            · refine g_lv (lv' := [(0, .ref a0), (1, .int r1), (2, .int r13), (3, .int (l3_38 + r77)), (4, .int l4_39), (6, .int l6_41), (7, .int r66)]) [1, 2, 3, 4, 5, 6, 7] rfl ?_
                              exact hK170 (o172, o173, o174, o175, o176, o177, o178, o179, o180, o181, o182) h
                            · refine g_iload X (j := 6) dL_orders_175 rfl ?_
                              refine g_aload_n X (j := 1) dL_orders_177 rfl ?_
                              refine g_iload X (j := 7) dL_orders_178 rfl ?_
                              refine g_iconst (v := 1) X dL_orders_180 (by decide) ?_
                              obtain ⟨r183, o184, o185, o186, o187, o188, o189, o190, o191, o192, o193, o194, hc, h⟩ := bd12 h
                              refine g_callV (q0 := 0) (ci := 4) (is := [0, 1, 2, 3, 4, 5, 7, 8, 9, 10, 11, 12, 13, 14]) (As := [.int r66, .int 1]) (ws' := [(a0, .inr (4, [.ref a1, .ref b0_1, .ref a6, .ref a7, .ref b0_4, .ref b0_5, .ref b0_6, .int x0_length, .int o184])), (a1, .inr (2, [.ref a2, .ref a3, .ref a4, .ref a5, .int x1_size])), (a2, .inl (cI, 10, .inl f2)), (a3, .inl (cI, 10, .inl f3)), (a4, .inl (cI, 10, .inl f4)), (a5, .inl (cI, 10, .inl f5)), (a6, .inr (0, [.ref b6_0, .int x6_size])), (a7, .inr (1, [.ref a8, .ref a9, .ref a10, .ref a11, .ref a12, .ref a13, .ref a14, .int o185, .int o186, .int o187])), (a8, .inl (cI, 10, .inl o188)), (a9, .inl (cI, 10, .inl o189)), (a10, .inl (cI, 10, .inl o190)), (a11, .inl (cI, 10, .inl o191)), (a12, .inl (cI, 10, .inl o192)), (a13, .inl (cI, 10, .inl o193)), (a14, .inl (cI, 1024, .inl o194))]) (st := [.int l6_41]) X (c_X4_place l D cI cS cL a0 a1 a2 a3 a4 a5 a7 a8 a9 a10 a11 a12 a13 a14 b0_1 a6 b0_4 b0_5 b0_6 r66 1 x0_length o172 x1_size f2 f3 f4 f5 o173 o174 o175 o176 o177 o178 o179 o180 o181 o182 r183 o184 o185 o186 o187 o188 o189 o190 o191 o192 o193 o194 hc) gL_orders_X4_place rfl ⟨rfl, rfl⟩ hd_X4_place (by exact ⟨Nat.le_of_ble_eq_true rfl, Nat.le_of_ble_eq_true rfl⟩) ⟨Nat.zero_le _, Nat.zero_le _⟩ rfl rfl rfl rfl rfl rfl rfl (Nat.le_of_ble_eq_true rfl) rfl dL_orders_181 ?_
                              refine g_icmp_gt (tgt := 191) X h dL_orders_184 (by decide) (fun h => ?_) (fun h => ?_)
                              · refine g_lv (lv' := [(0, .ref a0), (1, .int r1), (2, .int r13), (3, .int (l3_38 + r77)), (4, .int l4_39), (6, .int l6_41), (7, .int r66)]) [1, 2, 3, 4, 5, 6, 7] rfl ?_
                                exact hK170 (o184, o185, o186, o187, o188, o189, o190, o191, o192, o193, o194) h
                              · refine g_iconst (v := 1) X dL_orders_187 (by decide) ?_
                                refine g_goto (tgt := 192) X dL_orders_188 (by decide) ?_
                                refine g_lv (lv' := [(0, .ref a0), (1, .int r1), (2, .int r13), (3, .int (l3_38 + r77)), (4, .int l4_39), (6, .int l6_41), (7, .int r66)]) [1, 2, 3, 4, 5, 6, 7] rfl ?_
                                exact hK121 (o184, o185, o186, o187, o188, o189, o190, o191, o192, o193, o194, 1) h
              · intro K94 hK94 h
                refine g_icmp_ne (tgt := 140) X h dL_orders_133 (by decide) (fun h => ?_) (fun h => ?_)
                · refine g_iconst (v := 0) X dL_orders_140 (by decide) ?_
                  exact hK94 0 h
                · refine g_iconst (v := 1) X dL_orders_136 (by decide) ?_
                  refine g_goto (tgt := 141) X dL_orders_137 (by decide) ?_
                  exact hK94 1 h
            · intro K92 hK92 h
              refine g_if_ne (tgt := 132) X h dL_orders_125 (by decide) (fun h => ?_) (fun h => ?_)
              · refine g_iconst (v := 0) X dL_orders_132 (by decide) ?_
                exact hK92 0 h
              · refine g_iconst (v := 1) X dL_orders_128 (by decide) ?_
                refine g_goto (tgt := 133) X dL_orders_129 (by decide) ?_
                exact hK92 1 h
          · intro K90 hK90 h
            refine g_icmp_ne (tgt := 123) X h dL_orders_116 (by decide) (fun h => ?_) (fun h => ?_)
            · refine g_iconst (v := 0) X dL_orders_123 (by decide) ?_
              refine g_lv (lv' := [(0, .ref a0), (1, .int r1), (2, .int r13), (3, .int (l3_38 + r77)), (4, .int l4_39), (6, .int l6_41), (7, .int r66)]) [2, 3, 4, 0, 5, 7, 1] rfl ?_
              exact hK90 0 h
            · refine g_iconst (v := 1) X dL_orders_119 (by decide) ?_
              refine g_goto (tgt := 124) X dL_orders_120 (by decide) ?_
              refine g_lv (lv' := [(0, .ref a0), (1, .int r1), (2, .int r13), (3, .int (l3_38 + r77)), (4, .int l4_39), (6, .int l6_41), (7, .int r66)]) [2, 3, 4, 0, 5, 7, 1] rfl ?_
              exact hK90 1 h
  · intro K37 hK37 h
    refine jn_g h (u11 fun w199 w200 w201 w202 w203 w204 w205 w206 w207 w208 w209 => [(a0, .inr (4, [.ref a1, .ref b0_1, .ref a6, .ref a7, .ref b0_4, .ref b0_5, .ref b0_6, .int x0_length, .int w199])), (a1, .inr (2, [.ref a2, .ref a3, .ref a4, .ref a5, .int x1_size])), (a2, .inl (cI, 10, .inl f2)), (a3, .inl (cI, 10, .inl f3)), (a4, .inl (cI, 10, .inl f4)), (a5, .inl (cI, 10, .inl f5)), (a6, .inr (0, [.ref b6_0, .int x6_size])), (a7, .inr (1, [.ref a8, .ref a9, .ref a10, .ref a11, .ref a12, .ref a13, .ref a14, .int w200, .int w201, .int w202])), (a8, .inl (cI, 10, .inl w203)), (a9, .inl (cI, 10, .inl w204)), (a10, .inl (cI, 10, .inl w205)), (a11, .inl (cI, 10, .inl w206)), (a12, .inl (cI, 10, .inl w207)), (a13, .inl (cI, 10, .inl w208)), (a14, .inl (cI, 1024, .inl w209))]) (u11 fun w199 w200 w201 w202 w203 w204 w205 w206 w207 w208 w209 => [(0, .ref a0), (1, .int r1), (2, .int r13), (3, .int 0), (4, .int 0)]) (u11 fun w199 w200 w201 w202 w203 w204 w205 w206 w207 w208 w209 => []) 78 ?_ ?_
    · rintro ⟨w199, w200, w201, w202, w203, w204, w205, w206, w207, w208, w209⟩ h
      dsimp only [u11] at h ⊢
      refine g_iconst (v := 0) X dL_orders_78 (by decide) ?_
      exact hK37 (w199, w200, w201, w202, w203, w204, w205, w206, w207, w208, w209, 0) h
    · intro K210 hK210 h
      refine g_if_lt (tgt := 78) X h dL_orders_18 (by decide) (fun h => ?_) (fun h => ?_)
      · refine g_lv (lv' := [(0, .ref a0), (1, .int r1), (2, .int r13), (3, .int 0), (4, .int 0)]) [4, 3, 2, 1, 0] rfl ?_
        exact hK210 (o14, o15, o16, o17, o18, o19, o20, o21, o22, o23, o24) h
      · refine g_aload_n X (j := 4) dL_orders_21 rfl ?_
        refine g_iconst (v := 3) X dL_orders_22 (by decide) ?_
        obtain ⟨r211, o212, o213, o214, o215, o216, o217, o218, o219, o220, o221, o222, hc, h⟩ := bd12 h
        refine g_callVF (q0 := 0) (ci := 4) (is := [0, 1, 2, 3, 4, 5, 6, 7, 8, 9, 10, 11, 12, 13, 14]) (isR := []) (wr := []) (As := [.int 3]) (st := []) X (c_X4_count l D cI cS cL a0 a1 a2 a3 a4 a5 a6 a7 a8 a9 a10 a11 a12 a13 a14 b0_1 b0_4 b0_5 b0_6 b6_0 3 x0_length o14 x1_size f2 f3 f4 f5 x6_size o15 o16 o17 o18 o19 o20 o21 o22 o23 o24 r211 o212 o213 o214 o215 o216 o217 o218 o219 o220 o221 o222 hc) gL_orders_X4_count rfl ⟨rfl, rfl⟩ hd_X4_count (by exact ⟨Nat.le_of_ble_eq_true rfl, Nat.le_of_ble_eq_true rfl⟩) ⟨Nat.zero_le _, Nat.zero_le _⟩ rfl rfl rfl (by decide +kernel) rfl (by decide +kernel) (by decide +kernel) rfl (Nat.le_of_ble_eq_true rfl) rfl dL_orders_23 ?_
        rintro _ rfl
        refine g_ws (ws' := [(a0, .inr (4, [.ref a1, .ref b0_1, .ref a6, .ref a7, .ref b0_4, .ref b0_5, .ref b0_6, .int x0_length, .int o212])), (a1, .inr (2, [.ref a2, .ref a3, .ref a4, .ref a5, .int x1_size])), (a2, .inl (cI, 10, .inl f2)), (a3, .inl (cI, 10, .inl f3)), (a4, .inl (cI, 10, .inl f4)), (a5, .inl (cI, 10, .inl f5)), (a6, .inr (0, [.ref b6_0, .int x6_size])), (a7, .inr (1, [.ref a8, .ref a9, .ref a10, .ref a11, .ref a12, .ref a13, .ref a14, .int o213, .int o214, .int o215])), (a8, .inl (cI, 10, .inl o216)), (a9, .inl (cI, 10, .inl o217)), (a10, .inl (cI, 10, .inl o218)), (a11, .inl (cI, 10, .inl o219)), (a12, .inl (cI, 10, .inl o220)), (a13, .inl (cI, 10, .inl o221)), (a14, .inl (cI, 1024, .inl o222))]) [0, 1, 2, 3, 4, 5, 6, 7, 8, 9, 10, 11, 12, 13, 14] rfl (by decide +kernel) ?_
        refine jn_g h (u0 ([(a0, .inr (4, [.ref a1, .ref b0_1, .ref a6, .ref a7, .ref b0_4, .ref b0_5, .ref b0_6, .int x0_length, .int o212])), (a1, .inr (2, [.ref a2, .ref a3, .ref a4, .ref a5, .int x1_size])), (a2, .inl (cI, 10, .inl f2)), (a3, .inl (cI, 10, .inl f3)), (a4, .inl (cI, 10, .inl f4)), (a5, .inl (cI, 10, .inl f5)), (a6, .inr (0, [.ref b6_0, .int x6_size])), (a7, .inr (1, [.ref a8, .ref a9, .ref a10, .ref a11, .ref a12, .ref a13, .ref a14, .int o213, .int o214, .int o215])), (a8, .inl (cI, 10, .inl o216)), (a9, .inl (cI, 10, .inl o217)), (a10, .inl (cI, 10, .inl o218)), (a11, .inl (cI, 10, .inl o219)), (a12, .inl (cI, 10, .inl o220)), (a13, .inl (cI, 10, .inl o221)), (a14, .inl (cI, 1024, .inl o222))])) (u0 ([(0, .ref a0), (1, .int r1), (2, .int r13), (3, .int 0), (4, .int 0)])) (u0 ([])) 33 ?_ ?_
        · rintro ⟨⟩ h
          dsimp only [u0] at h ⊢
          refine g_iload_n X (j := 2) dL_orders_33 rfl ?_
          refine jn_g h (u1 fun s224 => [(a0, .inr (4, [.ref a1, .ref b0_1, .ref a6, .ref a7, .ref b0_4, .ref b0_5, .ref b0_6, .int x0_length, .int o212])), (a1, .inr (2, [.ref a2, .ref a3, .ref a4, .ref a5, .int x1_size])), (a2, .inl (cI, 10, .inl f2)), (a3, .inl (cI, 10, .inl f3)), (a4, .inl (cI, 10, .inl f4)), (a5, .inl (cI, 10, .inl f5)), (a6, .inr (0, [.ref b6_0, .int x6_size])), (a7, .inr (1, [.ref a8, .ref a9, .ref a10, .ref a11, .ref a12, .ref a13, .ref a14, .int o213, .int o214, .int o215])), (a8, .inl (cI, 10, .inl o216)), (a9, .inl (cI, 10, .inl o217)), (a10, .inl (cI, 10, .inl o218)), (a11, .inl (cI, 10, .inl o219)), (a12, .inl (cI, 10, .inl o220)), (a13, .inl (cI, 10, .inl o221)), (a14, .inl (cI, 1024, .inl o222))]) (u1 fun s224 => [(0, .ref a0), (1, .int r1), (2, .int r13), (3, .int 0), (4, .int 0)]) (u1 fun s224 => [.int s224]) 42 ?_ ?_
          · rintro s224 h
            dsimp only [u1] at h ⊢
            refine g_aload_n X (j := 0) dL_orders_42 rfl ?_
            refine g_iconst (v := 0) X dL_orders_43 (by decide) ?_
            obtain ⟨r226, o227, o228, o229, o230, o231, o232, o233, o234, o235, o236, o237, hc, h⟩ := bd12 h
            refine g_callV (q0 := 0) (ci := 4) (is := [0, 1, 2, 3, 4, 5, 7, 8, 9, 10, 11, 12, 13, 14]) (As := [.int 0]) (ws' := [(a0, .inr (4, [.ref a1, .ref b0_1, .ref a6, .ref a7, .ref b0_4, .ref b0_5, .ref b0_6, .int x0_length, .int o227])), (a1, .inr (2, [.ref a2, .ref a3, .ref a4, .ref a5, .int x1_size])), (a2, .inl (cI, 10, .inl f2)), (a3, .inl (cI, 10, .inl f3)), (a4, .inl (cI, 10, .inl f4)), (a5, .inl (cI, 10, .inl f5)), (a6, .inr (0, [.ref b6_0, .int x6_size])), (a7, .inr (1, [.ref a8, .ref a9, .ref a10, .ref a11, .ref a12, .ref a13, .ref a14, .int o228, .int o229, .int o230])), (a8, .inl (cI, 10, .inl o231)), (a9, .inl (cI, 10, .inl o232)), (a10, .inl (cI, 10, .inl o233)), (a11, .inl (cI, 10, .inl o234)), (a12, .inl (cI, 10, .inl o235)), (a13, .inl (cI, 10, .inl o236)), (a14, .inl (cI, 1024, .inl o237))]) (st := [.int s224]) X (c_X4_wrong l D cI cS cL a0 a1 a2 a3 a4 a5 a7 a8 a9 a10 a11 a12 a13 a14 b0_1 a6 b0_4 b0_5 b0_6 0 x0_length o212 x1_size f2 f3 f4 f5 o213 o214 o215 o216 o217 o218 o219 o220 o221 o222 r226 o227 o228 o229 o230 o231 o232 o233 o234 o235 o236 o237 hc) gL_orders_X4_wrong rfl ⟨rfl, rfl⟩ hd_X4_wrong (by exact ⟨Nat.le_of_ble_eq_true rfl, Nat.le_of_ble_eq_true rfl⟩) ⟨Nat.zero_le _, Nat.zero_le _⟩ rfl rfl rfl rfl rfl rfl rfl (Nat.le_of_ble_eq_true rfl) rfl dL_orders_44 ?_
            refine jn_g h (u1 fun s238 => [(a0, .inr (4, [.ref a1, .ref b0_1, .ref a6, .ref a7, .ref b0_4, .ref b0_5, .ref b0_6, .int x0_length, .int o227])), (a1, .inr (2, [.ref a2, .ref a3, .ref a4, .ref a5, .int x1_size])), (a2, .inl (cI, 10, .inl f2)), (a3, .inl (cI, 10, .inl f3)), (a4, .inl (cI, 10, .inl f4)), (a5, .inl (cI, 10, .inl f5)), (a6, .inr (0, [.ref b6_0, .int x6_size])), (a7, .inr (1, [.ref a8, .ref a9, .ref a10, .ref a11, .ref a12, .ref a13, .ref a14, .int o228, .int o229, .int o230])), (a8, .inl (cI, 10, .inl o231)), (a9, .inl (cI, 10, .inl o232)), (a10, .inl (cI, 10, .inl o233)), (a11, .inl (cI, 10, .inl o234)), (a12, .inl (cI, 10, .inl o235)), (a13, .inl (cI, 10, .inl o236)), (a14, .inl (cI, 1024, .inl o237))]) (u1 fun s238 => [(0, .ref a0), (1, .int r1), (2, .int r13), (3, .int 0), (4, .int 0)]) (u1 fun s238 => [.int s238, .int s224]) 55 ?_ ?_
            · rintro s238 h
              dsimp only [u1] at h ⊢
              refine g_icmp_ne (tgt := 78) X h dL_orders_55 (by decide) (fun h => ?_) (fun h => ?_)
              · exact hK210 (o227, o228, o229, o230, o231, o232, o233, o234, o235, o236, o237) h
              · refine g_aload_n X (j := 0) dL_orders_58 rfl ?_
                refine g_iconst (v := 0) X dL_orders_59 (by decide) ?_
                obtain ⟨r240, o241, o242, o243, o244, o245, o246, o247, o248, o249, o250, o251, hc, h⟩ := bd12 h
                refine g_callV (q0 := 0) (ci := 4) (is := [0, 1, 2, 3, 4, 5, 7, 8, 9, 10, 11, 12, 13, 14]) (As := [.int 0]) (ws' := [(a0, .inr (4, [.ref a1, .ref b0_1, .ref a6, .ref a7, .ref b0_4, .ref b0_5, .ref b0_6, .int x0_length, .int o241])), (a1, .inr (2, [.ref a2, .ref a3, .ref a4, .ref a5, .int x1_size])), (a2, .inl (cI, 10, .inl f2)), (a3, .inl (cI, 10, .inl f3)), (a4, .inl (cI, 10, .inl f4)), (a5, .inl (cI, 10, .inl f5)), (a6, .inr (0, [.ref b6_0, .int x6_size])), (a7, .inr (1, [.ref a8, .ref a9, .ref a10, .ref a11, .ref a12, .ref a13, .ref a14, .int o242, .int o243, .int o244])), (a8, .inl (cI, 10, .inl o245)), (a9, .inl (cI, 10, .inl o246)), (a10, .inl (cI, 10, .inl o247)), (a11, .inl (cI, 10, .inl o248)), (a12, .inl (cI, 10, .inl o249)), (a13, .inl (cI, 10, .inl o250)), (a14, .inl (cI, 1024, .inl o251))]) (st := []) X (c_X4_wrong l D cI cS cL a0 a1 a2 a3 a4 a5 a7 a8 a9 a10 a11 a12 a13 a14 b0_1 a6 b0_4 b0_5 b0_6 0 x0_length o227 x1_size f2 f3 f4 f5 o228 o229 o230 o231 o232 o233 o234 o235 o236 o237 r240 o241 o242 o243 o244 o245 o246 o247 o248 o249 o250 o251 hc) gL_orders_X4_wrong rfl ⟨rfl, rfl⟩ hd_X4_wrong (by exact ⟨Nat.le_of_ble_eq_true rfl, Nat.le_of_ble_eq_true rfl⟩) ⟨Nat.zero_le _, Nat.zero_le _⟩ rfl rfl rfl rfl rfl rfl rfl (Nat.le_of_ble_eq_true rfl) rfl dL_orders_60 ?_
                refine g_aload_n X (j := 0) dL_orders_63 rfl ?_
                refine g_iconst (v := 1) X dL_orders_64 (by decide) ?_
                obtain ⟨r252, o253, o254, o255, o256, o257, o258, o259, o260, o261, o262, o263, hc, h⟩ := bd12 h
                refine g_callV (q0 := 0) (ci := 4) (is := [0, 1, 2, 3, 4, 5, 7, 8, 9, 10, 11, 12, 13, 14]) (As := [.int 1]) (ws' := [(a0, .inr (4, [.ref a1, .ref b0_1, .ref a6, .ref a7, .ref b0_4, .ref b0_5, .ref b0_6, .int x0_length, .int o253])), (a1, .inr (2, [.ref a2, .ref a3, .ref a4, .ref a5, .int x1_size])), (a2, .inl (cI, 10, .inl f2)), (a3, .inl (cI, 10, .inl f3)), (a4, .inl (cI, 10, .inl f4)), (a5, .inl (cI, 10, .inl f5)), (a6, .inr (0, [.ref b6_0, .int x6_size])), (a7, .inr (1, [.ref a8, .ref a9, .ref a10, .ref a11, .ref a12, .ref a13, .ref a14, .int o254, .int o255, .int o256])), (a8, .inl (cI, 10, .inl o257)), (a9, .inl (cI, 10, .inl o258)), (a10, .inl (cI, 10, .inl o259)), (a11, .inl (cI, 10, .inl o260)), (a12, .inl (cI, 10, .inl o261)), (a13, .inl (cI, 10, .inl o262)), (a14, .inl (cI, 1024, .inl o263))]) (st := [.int r240]) X (c_X4_wrong l D cI cS cL a0 a1 a2 a3 a4 a5 a7 a8 a9 a10 a11 a12 a13 a14 b0_1 a6 b0_4 b0_5 b0_6 1 x0_length o241 x1_size f2 f3 f4 f5 o242 o243 o244 o245 o246 o247 o248 o249 o250 o251 r252 o253 o254 o255 o256 o257 o258 o259 o260 o261 o262 o263 hc) gL_orders_X4_wrong rfl ⟨rfl, rfl⟩ hd_X4_wrong (by exact ⟨Nat.le_of_ble_eq_true rfl, Nat.le_of_ble_eq_true rfl⟩) ⟨Nat.zero_le _, Nat.zero_le _⟩ rfl rfl rfl rfl rfl rfl rfl (Nat.le_of_ble_eq_true rfl) rfl dL_orders_65 ?_
                obtain ⟨r264, hc, h⟩ := bd1 h
                refine g_callS0 (As := [.int r252]) (st := [.int r240]) X (c_L_ones l D cI cS cL r252 r264 hc) gL_orders_L_ones rfl ⟨rfl, rfl⟩ hd_L_ones.2 ⟨Nat.le_of_ble_eq_true rfl, Nat.le_of_ble_eq_true rfl⟩ ⟨Nat.zero_le _, Nat.zero_le _⟩ rfl (Nat.le_of_ble_eq_true rfl) rfl dL_orders_68 ?_
                refine g_icmp_ne (tgt := 78) X h dL_orders_71 (by decide) (fun h => ?_) (fun h => ?_)
                · exact hK210 (o253, o254, o255, o256, o257, o258, o259, o260, o261, o262, o263) h
                · refine g_iconst (v := 1) X dL_orders_74 (by decide) ?_
                  refine g_goto (tgt := 79) X dL_orders_75 (by decide) ?_
                  exact hK37 (o253, o254, o255, o256, o257, o258, o259, o260, o261, o262, o263, 1) h
            · intro K239 hK239 h
              refine g_if_ne (tgt := 54) X h dL_orders_47 (by decide) (fun h => ?_) (fun h => ?_)
              · refine g_iconst (v := 0) X dL_orders_54 (by decide) ?_
                exact hK239 0 h
              · refine g_iconst (v := 1) X dL_orders_50 (by decide) ?_
                refine g_goto (tgt := 55) X dL_orders_51 (by decide) ?_
                exact hK239 1 h
          · intro K225 hK225 h
            refine g_if_le (tgt := 41) X h dL_orders_34 (by decide) (fun h => ?_) (fun h => ?_)
            · refine g_iconst (v := 0) X dL_orders_41 (by decide) ?_
              exact hK225 0 h
            · refine g_iconst (v := 1) X dL_orders_37 (by decide) ?_
              refine g_goto (tgt := 42) X dL_orders_38 (by decide) ?_
              exact hK225 1 h
        · intro K223 hK223 h
          refine g_if_eq (tgt := 33) X h dL_orders_26 (by decide) (fun h => ?_) (fun h => ?_)
          · refine g_lv (lv' := [(0, .ref a0), (1, .int r1), (2, .int r13), (3, .int 0), (4, .int 0)]) [4, 3, 2, 1, 0] rfl ?_
            exact hK223 () h
          · refine g_iload_n X (j := 2) dL_orders_29 rfl ?_
            refine g_if_ne (tgt := 78) X h dL_orders_30 (by decide) (fun h => ?_) (fun h => ?_)
            · refine g_lv (lv' := [(0, .ref a0), (1, .int r1), (2, .int r13), (3, .int 0), (4, .int 0)]) [4, 3, 2, 1, 0] rfl ?_
              exact hK210 (o212, o213, o214, o215, o216, o217, o218, o219, o220, o221, o222) h
            · refine g_lv (lv' := [(0, .ref a0), (1, .int r1), (2, .int r13), (3, .int 0), (4, .int 0)]) [4, 3, 2, 1, 0] rfl ?_
              exact hK223 () h
