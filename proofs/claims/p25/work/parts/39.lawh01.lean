set_option maxRecDepth 20000 in
theorem ggL_hunt_X4_count : GoodIn wsL_hunt wsX4_count := goodIn_ca (goodIn_r _ [5, 6, 7, 8, 9, 10, 4, 11, 12, 13, 14, 15, 16, 17, 18, 19, 20, 21, 22, 23, 24, 25, 26, 27, 28, 29, 30, 31, 32, 33, 34, 35, 36, 37, 38, 39, 40, 41, 42, 43, 44, 45, 46, 47, 48, 49, 50, 51, 52, 53, 54, 55, 56, 57, 58, 59, 60, 61, 62, 63, 64, 65, 66, 67, 68, 69, 70, 71, 72, 73, 74, 75, 76, 77, 78, 79, 80, 81, 82, 83, 84, 85, 86, 87, 88, 89, 90, 91, 92, 93, 94, 95, 96, 97, 98, 99, 100, 101, 102, 103, 104, 105, 106, 107, 108, 109, 110, 111, 112, 113, 114, 115, 116, 117, 151, 152, 153, 154, 155, 156, 157, 158, 159, 160, 161, 162, 163, 164, 165, 166, 167, 168, 169, 170, 171, 172, 173, 174, 175, 176] (by decide +kernel) (by decide +kernel)) (goodIn_sub (fun _ h => List.mem_cons_of_mem _ (List.mem_append_left _ (List.mem_append_right _ h))) (by decide +kernel))
set_option maxRecDepth 20000 in
theorem gL_hunt_X4_count : GoodIn wsL_hunt (wsV RL 21 RX4 yX4_count wsX4_count) := goodIn_app (goodIn_of _ (by decide +kernel)) ggL_hunt_X4_count
set_option maxRecDepth 20000 in
theorem ggL_hunt_X4_bookOf : GoodIn wsL_hunt wsX4_bookOf := goodIn_ca (goodIn_ca (goodIn_r _ [121, 122, 123, 6, 7, 124, 125, 126, 4, 127, 12, 13, 128, 129, 130, 131, 132, 133, 134, 135, 136, 137, 138, 139, 16, 17, 18, 19, 20, 21, 22, 23, 24, 25, 26, 27, 28, 29, 30, 31, 32, 33, 34, 35, 36, 37, 38, 39, 40, 41, 42, 43, 44, 45, 46, 47, 48, 49, 50, 51, 52, 53, 54, 55, 56, 57, 58, 59, 60, 61, 62, 63, 64, 65, 66, 67, 68, 140, 87, 88, 89, 90, 91, 92, 141, 74, 75, 76, 151, 152, 153, 154, 155, 156, 157, 158, 159, 160, 161, 162, 163, 164, 167, 168, 169, 170, 171, 172, 173, 174, 175, 176] (by decide +kernel) (by decide +kernel)) (goodIn_sub (fun _ h => List.mem_cons_of_mem _ (List.mem_append_right _ h)) (by decide +kernel))) (goodIn_sub (fun _ h => List.mem_cons_of_mem _ (List.mem_append_left _ (List.mem_append_right _ h))) (by decide +kernel))
set_option maxRecDepth 20000 in
theorem gL_hunt_X4_bookOf : GoodIn wsL_hunt (wsV RL 43 RX4 yX4_bookOf wsX4_bookOf) := goodIn_app (goodIn_of _ (by decide +kernel)) ggL_hunt_X4_bookOf
set_option maxRecDepth 20000 in
theorem ggL_hunt_L_ones : GoodIn wsL_hunt wsL_ones := goodIn_r _ [145] (by decide +kernel) (by decide +kernel)
set_option maxRecDepth 20000 in
theorem gL_hunt_L_ones : GoodIn wsL_hunt (va_wsS RL 28 yL_ones wsL_ones) := goodIn_app (goodIn_of _ (by decide +kernel)) ggL_hunt_L_ones
set_option maxRecDepth 20000 in
theorem ggL_hunt_X4_ahead : GoodIn wsL_hunt wsX4_ahead := goodIn_ca (goodIn_ca (goodIn_r _ [149, 122, 123, 6, 7, 12, 124, 125, 126, 4, 127, 13, 150, 37, 38, 39, 40, 41, 42, 43, 44, 151, 152, 153, 154, 155, 156, 157, 158, 159, 160, 161, 162, 163, 164] (by decide +kernel) (by decide +kernel)) (goodIn_sub (fun _ h => List.mem_cons_of_mem _ (List.mem_append_right _ h)) (by decide +kernel))) (goodIn_sub (fun _ h => List.mem_cons_of_mem _ (List.mem_append_left _ (List.mem_append_right _ h))) (by decide +kernel))
set_option maxRecDepth 20000 in
theorem gL_hunt_X4_ahead : GoodIn wsL_hunt (wsV RL 40 RX4 yX4_ahead wsX4_ahead) := goodIn_app (goodIn_of _ (by decide +kernel)) ggL_hunt_X4_ahead
theorem dL_hunt_0 : decode cL_hunt 0 = .ok (.aload_n 0, 1) := by decide +kernel
theorem dL_hunt_1 : decode cL_hunt 1 = .ok (.iconst 0, 1) := by decide +kernel
theorem dL_hunt_2 : decode cL_hunt 2 = .ok (.invokevirtual 21, 3) := by decide +kernel
theorem dL_hunt_5 : decode cL_hunt 5 = .ok (.istore_n 1, 1) := by decide +kernel
theorem dL_hunt_6 : decode cL_hunt 6 = .ok (.iconst 0, 1) := by decide +kernel
theorem dL_hunt_7 : decode cL_hunt 7 = .ok (.istore_n 2, 1) := by decide +kernel
theorem dL_hunt_8 : decode cL_hunt 8 = .ok (.iconst 0, 1) := by decide +kernel
theorem dL_hunt_9 : decode cL_hunt 9 = .ok (.istore_n 3, 1) := by decide +kernel
theorem dL_hunt_10 : decode cL_hunt 10 = .ok (.iconst 0, 1) := by decide +kernel
theorem dL_hunt_11 : decode cL_hunt 11 = .ok (.istore 4, 2) := by decide +kernel
theorem dL_hunt_13 : decode cL_hunt 13 = .ok (.iload_n 1, 1) := by decide +kernel
theorem dL_hunt_14 : decode cL_hunt 14 = .ok (.bipush 10, 2) := by decide +kernel
theorem dL_hunt_16 : decode cL_hunt 16 = .ok (.if_icmp .gt 31, 3) := by decide +kernel
theorem dL_hunt_19 : decode cL_hunt 19 = .ok (.aload_n 0, 1) := by decide +kernel
theorem dL_hunt_20 : decode cL_hunt 20 = .ok (.bipush 7, 2) := by decide +kernel
theorem dL_hunt_22 : decode cL_hunt 22 = .ok (.invokevirtual 21, 3) := by decide +kernel
theorem dL_hunt_25 : decode cL_hunt 25 = .ok (.aload_n 0, 1) := by decide +kernel
theorem dL_hunt_26 : decode cL_hunt 26 = .ok (.bipush 8, 2) := by decide +kernel
theorem dL_hunt_28 : decode cL_hunt 28 = .ok (.invokevirtual 21, 3) := by decide +kernel
theorem dL_hunt_31 : decode cL_hunt 31 = .ok (.iadd, 1) := by decide +kernel
theorem dL_hunt_32 : decode cL_hunt 32 = .ok (.aload_n 0, 1) := by decide +kernel
theorem dL_hunt_33 : decode cL_hunt 33 = .ok (.bipush 9, 2) := by decide +kernel
theorem dL_hunt_35 : decode cL_hunt 35 = .ok (.invokevirtual 21, 3) := by decide +kernel
theorem dL_hunt_38 : decode cL_hunt 38 = .ok (.iadd, 1) := by decide +kernel
theorem dL_hunt_39 : decode cL_hunt 39 = .ok (.iload_n 1, 1) := by decide +kernel
theorem dL_hunt_40 : decode cL_hunt 40 = .ok (.if_icmp .ne 7, 3) := by decide +kernel
theorem dL_hunt_43 : decode cL_hunt 43 = .ok (.iconst 1, 1) := by decide +kernel
theorem dL_hunt_44 : decode cL_hunt 44 = .ok (.goto 4, 3) := by decide +kernel
theorem dL_hunt_47 : decode cL_hunt 47 = .ok (.iconst 0, 1) := by decide +kernel
theorem dL_hunt_48 : decode cL_hunt 48 = .ok (.istore 5, 2) := by decide +kernel
theorem dL_hunt_50 : decode cL_hunt 50 = .ok (.iconst 0, 1) := by decide +kernel
theorem dL_hunt_51 : decode cL_hunt 51 = .ok (.istore 6, 2) := by decide +kernel
theorem dL_hunt_53 : decode cL_hunt 53 = .ok (.iload 6, 2) := by decide +kernel
theorem dL_hunt_55 : decode cL_hunt 55 = .ok (.iload_n 1, 1) := by decide +kernel
theorem dL_hunt_56 : decode cL_hunt 56 = .ok (.if_icmp .ge 395, 3) := by decide +kernel
theorem dL_hunt_59 : decode cL_hunt 59 = .ok (.iload 5, 2) := by decide +kernel
theorem dL_hunt_61 : decode cL_hunt 61 = .ok (.ifCond .eq 390, 3) := by decide +kernel
theorem dL_hunt_64 : decode cL_hunt 64 = .ok (.aload_n 0, 1) := by decide +kernel
theorem dL_hunt_65 : decode cL_hunt 65 = .ok (.iload 6, 2) := by decide +kernel
theorem dL_hunt_67 : decode cL_hunt 67 = .ok (.iconst 3, 1) := by decide +kernel
theorem dL_hunt_68 : decode cL_hunt 68 = .ok (.invokevirtual 43, 3) := by decide +kernel
theorem dL_hunt_71 : decode cL_hunt 71 = .ok (.istore 7, 2) := by decide +kernel
theorem dL_hunt_73 : decode cL_hunt 73 = .ok (.iload_n 2, 1) := by decide +kernel
theorem dL_hunt_74 : decode cL_hunt 74 = .ok (.aload_n 0, 1) := by decide +kernel
theorem dL_hunt_75 : decode cL_hunt 75 = .ok (.iload 6, 2) := by decide +kernel
theorem dL_hunt_77 : decode cL_hunt 77 = .ok (.bipush 7, 2) := by decide +kernel
theorem dL_hunt_79 : decode cL_hunt 79 = .ok (.invokevirtual 43, 3) := by decide +kernel
theorem dL_hunt_82 : decode cL_hunt 82 = .ok (.iadd, 1) := by decide +kernel
theorem dL_hunt_83 : decode cL_hunt 83 = .ok (.istore_n 2, 1) := by decide +kernel
theorem dL_hunt_84 : decode cL_hunt 84 = .ok (.iload_n 3, 1) := by decide +kernel
theorem dL_hunt_85 : decode cL_hunt 85 = .ok (.iload 7, 2) := by decide +kernel
theorem dL_hunt_87 : decode cL_hunt 87 = .ok (.ifCond .lt 7, 3) := by decide +kernel
theorem dL_hunt_90 : decode cL_hunt 90 = .ok (.iconst 1, 1) := by decide +kernel
theorem dL_hunt_91 : decode cL_hunt 91 = .ok (.goto 4, 3) := by decide +kernel
theorem dL_hunt_94 : decode cL_hunt 94 = .ok (.iconst 0, 1) := by decide +kernel
theorem dL_hunt_95 : decode cL_hunt 95 = .ok (.iadd, 1) := by decide +kernel
theorem dL_hunt_96 : decode cL_hunt 96 = .ok (.istore_n 3, 1) := by decide +kernel
theorem dL_hunt_97 : decode cL_hunt 97 = .ok (.aload_n 0, 1) := by decide +kernel
theorem dL_hunt_98 : decode cL_hunt 98 = .ok (.iload 6, 2) := by decide +kernel
theorem dL_hunt_100 : decode cL_hunt 100 = .ok (.iconst 5, 1) := by decide +kernel
theorem dL_hunt_101 : decode cL_hunt 101 = .ok (.invokevirtual 43, 3) := by decide +kernel
theorem dL_hunt_104 : decode cL_hunt 104 = .ok (.sipush 1450, 3) := by decide +kernel
theorem dL_hunt_107 : decode cL_hunt 107 = .ok (.if_icmp .lt 153, 3) := by decide +kernel
theorem dL_hunt_110 : decode cL_hunt 110 = .ok (.aload_n 0, 1) := by decide +kernel
theorem dL_hunt_111 : decode cL_hunt 111 = .ok (.iload 6, 2) := by decide +kernel
theorem dL_hunt_113 : decode cL_hunt 113 = .ok (.bipush 6, 2) := by decide +kernel
theorem dL_hunt_115 : decode cL_hunt 115 = .ok (.invokevirtual 43, 3) := by decide +kernel
theorem dL_hunt_118 : decode cL_hunt 118 = .ok (.sipush 1999, 3) := by decide +kernel
theorem dL_hunt_121 : decode cL_hunt 121 = .ok (.if_icmp .gt 139, 3) := by decide +kernel
theorem dL_hunt_124 : decode cL_hunt 124 = .ok (.iload 7, 2) := by decide +kernel
theorem dL_hunt_126 : decode cL_hunt 126 = .ok (.iconst (-1), 1) := by decide +kernel
theorem dL_hunt_127 : decode cL_hunt 127 = .ok (.if_icmp .eq 28, 3) := by decide +kernel
theorem dL_hunt_130 : decode cL_hunt 130 = .ok (.aload_n 0, 1) := by decide +kernel
theorem dL_hunt_131 : decode cL_hunt 131 = .ok (.iload 6, 2) := by decide +kernel
theorem dL_hunt_133 : decode cL_hunt 133 = .ok (.iconst 5, 1) := by decide +kernel
theorem dL_hunt_134 : decode cL_hunt 134 = .ok (.invokevirtual 43, 3) := by decide +kernel
theorem dL_hunt_137 : decode cL_hunt 137 = .ok (.iload 7, 2) := by decide +kernel
theorem dL_hunt_139 : decode cL_hunt 139 = .ok (.if_icmp .lt 121, 3) := by decide +kernel
theorem dL_hunt_142 : decode cL_hunt 142 = .ok (.aload_n 0, 1) := by decide +kernel
theorem dL_hunt_143 : decode cL_hunt 143 = .ok (.iload 6, 2) := by decide +kernel
theorem dL_hunt_145 : decode cL_hunt 145 = .ok (.bipush 6, 2) := by decide +kernel
theorem dL_hunt_147 : decode cL_hunt 147 = .ok (.invokevirtual 43, 3) := by decide +kernel
theorem dL_hunt_150 : decode cL_hunt 150 = .ok (.iload 7, 2) := by decide +kernel
theorem dL_hunt_152 : decode cL_hunt 152 = .ok (.if_icmp .gt 108, 3) := by decide +kernel
theorem dL_hunt_155 : decode cL_hunt 155 = .ok (.aload_n 0, 1) := by decide +kernel
theorem dL_hunt_156 : decode cL_hunt 156 = .ok (.iload 6, 2) := by decide +kernel
theorem dL_hunt_158 : decode cL_hunt 158 = .ok (.bipush 7, 2) := by decide +kernel
theorem dL_hunt_160 : decode cL_hunt 160 = .ok (.invokevirtual 43, 3) := by decide +kernel
theorem dL_hunt_163 : decode cL_hunt 163 = .ok (.iconst 1, 1) := by decide +kernel
theorem dL_hunt_164 : decode cL_hunt 164 = .ok (.if_icmp .ne 7, 3) := by decide +kernel
theorem dL_hunt_167 : decode cL_hunt 167 = .ok (.iconst 1, 1) := by decide +kernel
theorem dL_hunt_168 : decode cL_hunt 168 = .ok (.goto 4, 3) := by decide +kernel
theorem dL_hunt_171 : decode cL_hunt 171 = .ok (.iconst 0, 1) := by decide +kernel
theorem dL_hunt_172 : decode cL_hunt 172 = .ok (.aload_n 0, 1) := by decide +kernel
theorem dL_hunt_173 : decode cL_hunt 173 = .ok (.iload 6, 2) := by decide +kernel
theorem dL_hunt_175 : decode cL_hunt 175 = .ok (.iconst 5, 1) := by decide +kernel
theorem dL_hunt_176 : decode cL_hunt 176 = .ok (.invokevirtual 43, 3) := by decide +kernel
theorem dL_hunt_179 : decode cL_hunt 179 = .ok (.aload_n 0, 1) := by decide +kernel
theorem dL_hunt_180 : decode cL_hunt 180 = .ok (.iload 6, 2) := by decide +kernel
theorem dL_hunt_182 : decode cL_hunt 182 = .ok (.bipush 6, 2) := by decide +kernel
theorem dL_hunt_184 : decode cL_hunt 184 = .ok (.invokevirtual 43, 3) := by decide +kernel
theorem dL_hunt_187 : decode cL_hunt 187 = .ok (.if_icmp .ne 7, 3) := by decide +kernel
theorem dL_hunt_190 : decode cL_hunt 190 = .ok (.iconst 1, 1) := by decide +kernel
theorem dL_hunt_191 : decode cL_hunt 191 = .ok (.goto 4, 3) := by decide +kernel
theorem dL_hunt_194 : decode cL_hunt 194 = .ok (.iconst 0, 1) := by decide +kernel
theorem dL_hunt_195 : decode cL_hunt 195 = .ok (.if_icmp .ne 65, 3) := by decide +kernel
theorem dL_hunt_198 : decode cL_hunt 198 = .ok (.aload_n 0, 1) := by decide +kernel
theorem dL_hunt_199 : decode cL_hunt 199 = .ok (.iload 6, 2) := by decide +kernel
theorem dL_hunt_201 : decode cL_hunt 201 = .ok (.iconst 4, 1) := by decide +kernel
theorem dL_hunt_202 : decode cL_hunt 202 = .ok (.invokevirtual 43, 3) := by decide +kernel
theorem dL_hunt_205 : decode cL_hunt 205 = .ok (.aload_n 0, 1) := by decide +kernel
theorem dL_hunt_206 : decode cL_hunt 206 = .ok (.iload 6, 2) := by decide +kernel
theorem dL_hunt_208 : decode cL_hunt 208 = .ok (.iconst 1, 1) := by decide +kernel
theorem dL_hunt_209 : decode cL_hunt 209 = .ok (.invokevirtual 43, 3) := by decide +kernel
theorem dL_hunt_212 : decode cL_hunt 212 = .ok (.invokestatic 28, 3) := by decide +kernel
theorem dL_hunt_215 : decode cL_hunt 215 = .ok (.if_icmp .ne 45, 3) := by decide +kernel
theorem dL_hunt_218 : decode cL_hunt 218 = .ok (.aload_n 0, 1) := by decide +kernel
theorem dL_hunt_219 : decode cL_hunt 219 = .ok (.iload 6, 2) := by decide +kernel
theorem dL_hunt_221 : decode cL_hunt 221 = .ok (.bipush 10, 2) := by decide +kernel
theorem dL_hunt_223 : decode cL_hunt 223 = .ok (.invokevirtual 43, 3) := by decide +kernel
theorem dL_hunt_226 : decode cL_hunt 226 = .ok (.aload_n 0, 1) := by decide +kernel
theorem dL_hunt_227 : decode cL_hunt 227 = .ok (.iload 6, 2) := by decide +kernel
theorem dL_hunt_229 : decode cL_hunt 229 = .ok (.bipush 8, 2) := by decide +kernel
theorem dL_hunt_231 : decode cL_hunt 231 = .ok (.invokevirtual 43, 3) := by decide +kernel
theorem dL_hunt_234 : decode cL_hunt 234 = .ok (.if_icmp .gt 26, 3) := by decide +kernel
theorem dL_hunt_237 : decode cL_hunt 237 = .ok (.aload_n 0, 1) := by decide +kernel
theorem dL_hunt_238 : decode cL_hunt 238 = .ok (.iload 6, 2) := by decide +kernel
theorem dL_hunt_240 : decode cL_hunt 240 = .ok (.bipush 10, 2) := by decide +kernel
theorem dL_hunt_242 : decode cL_hunt 242 = .ok (.invokevirtual 43, 3) := by decide +kernel
theorem dL_hunt_245 : decode cL_hunt 245 = .ok (.aload_n 0, 1) := by decide +kernel
theorem dL_hunt_246 : decode cL_hunt 246 = .ok (.iload 6, 2) := by decide +kernel
theorem dL_hunt_248 : decode cL_hunt 248 = .ok (.bipush 9, 2) := by decide +kernel
theorem dL_hunt_250 : decode cL_hunt 250 = .ok (.invokevirtual 43, 3) := by decide +kernel
theorem dL_hunt_253 : decode cL_hunt 253 = .ok (.if_icmp .gt 7, 3) := by decide +kernel
theorem dL_hunt_256 : decode cL_hunt 256 = .ok (.iconst 1, 1) := by decide +kernel
theorem dL_hunt_257 : decode cL_hunt 257 = .ok (.goto 4, 3) := by decide +kernel
theorem dL_hunt_260 : decode cL_hunt 260 = .ok (.iconst 0, 1) := by decide +kernel
theorem dL_hunt_261 : decode cL_hunt 261 = .ok (.istore 5, 2) := by decide +kernel
theorem dL_hunt_263 : decode cL_hunt 263 = .ok (.iconst 0, 1) := by decide +kernel
theorem dL_hunt_264 : decode cL_hunt 264 = .ok (.istore 8, 2) := by decide +kernel
theorem dL_hunt_266 : decode cL_hunt 266 = .ok (.iload 8, 2) := by decide +kernel
theorem dL_hunt_268 : decode cL_hunt 268 = .ok (.iload 6, 2) := by decide +kernel
theorem dL_hunt_270 : decode cL_hunt 270 = .ok (.if_icmp .ge 175, 3) := by decide +kernel
theorem dL_hunt_273 : decode cL_hunt 273 = .ok (.iload 5, 2) := by decide +kernel
theorem dL_hunt_275 : decode cL_hunt 275 = .ok (.ifCond .eq 170, 3) := by decide +kernel
theorem dL_hunt_278 : decode cL_hunt 278 = .ok (.aload_n 0, 1) := by decide +kernel
theorem dL_hunt_279 : decode cL_hunt 279 = .ok (.iload 8, 2) := by decide +kernel
theorem dL_hunt_281 : decode cL_hunt 281 = .ok (.iconst 0, 1) := by decide +kernel
theorem dL_hunt_282 : decode cL_hunt 282 = .ok (.invokevirtual 43, 3) := by decide +kernel
theorem dL_hunt_285 : decode cL_hunt 285 = .ok (.aload_n 0, 1) := by decide +kernel
theorem dL_hunt_286 : decode cL_hunt 286 = .ok (.iload 6, 2) := by decide +kernel
theorem dL_hunt_288 : decode cL_hunt 288 = .ok (.iconst 0, 1) := by decide +kernel
theorem dL_hunt_289 : decode cL_hunt 289 = .ok (.invokevirtual 43, 3) := by decide +kernel
theorem dL_hunt_292 : decode cL_hunt 292 = .ok (.if_icmp .ne 7, 3) := by decide +kernel
theorem dL_hunt_295 : decode cL_hunt 295 = .ok (.iconst 1, 1) := by decide +kernel
theorem dL_hunt_296 : decode cL_hunt 296 = .ok (.goto 4, 3) := by decide +kernel
theorem dL_hunt_299 : decode cL_hunt 299 = .ok (.iconst 0, 1) := by decide +kernel
theorem dL_hunt_300 : decode cL_hunt 300 = .ok (.istore 9, 2) := by decide +kernel
theorem dL_hunt_302 : decode cL_hunt 302 = .ok (.aload_n 0, 1) := by decide +kernel
theorem dL_hunt_303 : decode cL_hunt 303 = .ok (.iload 8, 2) := by decide +kernel
theorem dL_hunt_305 : decode cL_hunt 305 = .ok (.iload 6, 2) := by decide +kernel
theorem dL_hunt_307 : decode cL_hunt 307 = .ok (.invokevirtual 40, 3) := by decide +kernel
theorem dL_hunt_310 : decode cL_hunt 310 = .ok (.istore 10, 2) := by decide +kernel
theorem dL_hunt_312 : decode cL_hunt 312 = .ok (.iload 4, 2) := by decide +kernel
theorem dL_hunt_314 : decode cL_hunt 314 = .ok (.iload 10, 2) := by decide +kernel
theorem dL_hunt_316 : decode cL_hunt 316 = .ok (.ifCond .le 18, 3) := by decide +kernel
theorem dL_hunt_319 : decode cL_hunt 319 = .ok (.aload_n 0, 1) := by decide +kernel
theorem dL_hunt_320 : decode cL_hunt 320 = .ok (.iload 6, 2) := by decide +kernel
theorem dL_hunt_322 : decode cL_hunt 322 = .ok (.iload 8, 2) := by decide +kernel
theorem dL_hunt_324 : decode cL_hunt 324 = .ok (.invokevirtual 40, 3) := by decide +kernel
theorem dL_hunt_327 : decode cL_hunt 327 = .ok (.ifCond .le 7, 3) := by decide +kernel
theorem dL_hunt_330 : decode cL_hunt 330 = .ok (.iconst 1, 1) := by decide +kernel
theorem dL_hunt_331 : decode cL_hunt 331 = .ok (.goto 4, 3) := by decide +kernel
theorem dL_hunt_334 : decode cL_hunt 334 = .ok (.iconst 0, 1) := by decide +kernel
theorem dL_hunt_335 : decode cL_hunt 335 = .ok (.iadd, 1) := by decide +kernel
theorem dL_hunt_336 : decode cL_hunt 336 = .ok (.istore 4, 2) := by decide +kernel
theorem dL_hunt_338 : decode cL_hunt 338 = .ok (.iload 10, 2) := by decide +kernel
theorem dL_hunt_340 : decode cL_hunt 340 = .ok (.iconst 2, 1) := by decide +kernel
theorem dL_hunt_341 : decode cL_hunt 341 = .ok (.irem, 1) := by decide +kernel
theorem dL_hunt_342 : decode cL_hunt 342 = .ok (.iconst 1, 1) := by decide +kernel
theorem dL_hunt_343 : decode cL_hunt 343 = .ok (.if_icmp .ne 7, 3) := by decide +kernel
theorem dL_hunt_346 : decode cL_hunt 346 = .ok (.iconst 1, 1) := by decide +kernel
theorem dL_hunt_347 : decode cL_hunt 347 = .ok (.goto 4, 3) := by decide +kernel
theorem dL_hunt_350 : decode cL_hunt 350 = .ok (.iconst 0, 1) := by decide +kernel
theorem dL_hunt_351 : decode cL_hunt 351 = .ok (.iload 9, 2) := by decide +kernel
theorem dL_hunt_353 : decode cL_hunt 353 = .ok (.ifCond .eq 27, 3) := by decide +kernel
theorem dL_hunt_356 : decode cL_hunt 356 = .ok (.aload_n 0, 1) := by decide +kernel
theorem dL_hunt_357 : decode cL_hunt 357 = .ok (.iload 6, 2) := by decide +kernel
theorem dL_hunt_359 : decode cL_hunt 359 = .ok (.iconst 1, 1) := by decide +kernel
theorem dL_hunt_360 : decode cL_hunt 360 = .ok (.invokevirtual 43, 3) := by decide +kernel
theorem dL_hunt_363 : decode cL_hunt 363 = .ok (.aload_n 0, 1) := by decide +kernel
theorem dL_hunt_364 : decode cL_hunt 364 = .ok (.iload 8, 2) := by decide +kernel
theorem dL_hunt_366 : decode cL_hunt 366 = .ok (.iconst 1, 1) := by decide +kernel
theorem dL_hunt_367 : decode cL_hunt 367 = .ok (.invokevirtual 43, 3) := by decide +kernel
theorem dL_hunt_370 : decode cL_hunt 370 = .ok (.iconst (-1), 1) := by decide +kernel
theorem dL_hunt_371 : decode cL_hunt 371 = .ok (.ixor, 1) := by decide +kernel
theorem dL_hunt_372 : decode cL_hunt 372 = .ok (.iand, 1) := by decide +kernel
theorem dL_hunt_373 : decode cL_hunt 373 = .ok (.ifCond .eq 7, 3) := by decide +kernel
theorem dL_hunt_376 : decode cL_hunt 376 = .ok (.iconst 1, 1) := by decide +kernel
theorem dL_hunt_377 : decode cL_hunt 377 = .ok (.goto 4, 3) := by decide +kernel
theorem dL_hunt_380 : decode cL_hunt 380 = .ok (.iconst 0, 1) := by decide +kernel
theorem dL_hunt_381 : decode cL_hunt 381 = .ok (.if_icmp .ne 55, 3) := by decide +kernel
theorem dL_hunt_384 : decode cL_hunt 384 = .ok (.iload 10, 2) := by decide +kernel
theorem dL_hunt_386 : decode cL_hunt 386 = .ok (.iconst 4, 1) := by decide +kernel
theorem dL_hunt_387 : decode cL_hunt 387 = .ok (.if_icmp .ge 7, 3) := by decide +kernel
theorem dL_hunt_390 : decode cL_hunt 390 = .ok (.iconst 1, 1) := by decide +kernel
theorem dL_hunt_391 : decode cL_hunt 391 = .ok (.goto 4, 3) := by decide +kernel
theorem dL_hunt_394 : decode cL_hunt 394 = .ok (.iconst 0, 1) := by decide +kernel
theorem dL_hunt_395 : decode cL_hunt 395 = .ok (.aload_n 0, 1) := by decide +kernel
theorem dL_hunt_396 : decode cL_hunt 396 = .ok (.iload 8, 2) := by decide +kernel
theorem dL_hunt_398 : decode cL_hunt 398 = .ok (.iconst 3, 1) := by decide +kernel
theorem dL_hunt_399 : decode cL_hunt 399 = .ok (.invokevirtual 43, 3) := by decide +kernel
theorem dL_hunt_402 : decode cL_hunt 402 = .ok (.iconst (-1), 1) := by decide +kernel
theorem dL_hunt_403 : decode cL_hunt 403 = .ok (.if_icmp .eq 21, 3) := by decide +kernel
theorem dL_hunt_406 : decode cL_hunt 406 = .ok (.iload 7, 2) := by decide +kernel
theorem dL_hunt_408 : decode cL_hunt 408 = .ok (.iconst (-1), 1) := by decide +kernel
theorem dL_hunt_409 : decode cL_hunt 409 = .ok (.if_icmp .eq 15, 3) := by decide +kernel
theorem dL_hunt_412 : decode cL_hunt 412 = .ok (.aload_n 0, 1) := by decide +kernel
theorem dL_hunt_413 : decode cL_hunt 413 = .ok (.iload 8, 2) := by decide +kernel
theorem dL_hunt_415 : decode cL_hunt 415 = .ok (.iconst 3, 1) := by decide +kernel
theorem dL_hunt_416 : decode cL_hunt 416 = .ok (.invokevirtual 43, 3) := by decide +kernel
theorem dL_hunt_419 : decode cL_hunt 419 = .ok (.iload 7, 2) := by decide +kernel
theorem dL_hunt_421 : decode cL_hunt 421 = .ok (.if_icmp .lt 7, 3) := by decide +kernel
theorem dL_hunt_424 : decode cL_hunt 424 = .ok (.iconst 1, 1) := by decide +kernel
theorem dL_hunt_425 : decode cL_hunt 425 = .ok (.goto 4, 3) := by decide +kernel
theorem dL_hunt_428 : decode cL_hunt 428 = .ok (.iconst 0, 1) := by decide +kernel
theorem dL_hunt_429 : decode cL_hunt 429 = .ok (.if_icmp .ne 7, 3) := by decide +kernel
theorem dL_hunt_432 : decode cL_hunt 432 = .ok (.iconst 1, 1) := by decide +kernel
theorem dL_hunt_433 : decode cL_hunt 433 = .ok (.goto 4, 3) := by decide +kernel
theorem dL_hunt_436 : decode cL_hunt 436 = .ok (.iconst 0, 1) := by decide +kernel
theorem dL_hunt_437 : decode cL_hunt 437 = .ok (.istore 5, 2) := by decide +kernel
theorem dL_hunt_439 : decode cL_hunt 439 = .ok (.iinc 8 1, 3) := by decide +kernel
theorem dL_hunt_442 : decode cL_hunt 442 = .ok (.goto (-176), 3) := by decide +kernel
theorem dL_hunt_445 : decode cL_hunt 445 = .ok (.iinc 6 1, 3) := by decide +kernel
theorem dL_hunt_448 : decode cL_hunt 448 = .ok (.goto (-395), 3) := by decide +kernel
theorem dL_hunt_451 : decode cL_hunt 451 = .ok (.iload 5, 2) := by decide +kernel
theorem dL_hunt_453 : decode cL_hunt 453 = .ok (.ifCond .eq 35, 3) := by decide +kernel
theorem dL_hunt_456 : decode cL_hunt 456 = .ok (.iload_n 2, 1) := by decide +kernel
theorem dL_hunt_457 : decode cL_hunt 457 = .ok (.aload_n 0, 1) := by decide +kernel
theorem dL_hunt_458 : decode cL_hunt 458 = .ok (.iconst 1, 1) := by decide +kernel
theorem dL_hunt_459 : decode cL_hunt 459 = .ok (.invokevirtual 21, 3) := by decide +kernel
theorem dL_hunt_462 : decode cL_hunt 462 = .ok (.if_icmp .ne 26, 3) := by decide +kernel
theorem dL_hunt_465 : decode cL_hunt 465 = .ok (.iload_n 3, 1) := by decide +kernel
theorem dL_hunt_466 : decode cL_hunt 466 = .ok (.aload_n 0, 1) := by decide +kernel
theorem dL_hunt_467 : decode cL_hunt 467 = .ok (.iconst 2, 1) := by decide +kernel
theorem dL_hunt_468 : decode cL_hunt 468 = .ok (.invokevirtual 21, 3) := by decide +kernel
theorem dL_hunt_471 : decode cL_hunt 471 = .ok (.if_icmp .ne 17, 3) := by decide +kernel
theorem dL_hunt_474 : decode cL_hunt 474 = .ok (.iload 4, 2) := by decide +kernel
theorem dL_hunt_476 : decode cL_hunt 476 = .ok (.aload_n 0, 1) := by decide +kernel
theorem dL_hunt_477 : decode cL_hunt 477 = .ok (.iconst 3, 1) := by decide +kernel
theorem dL_hunt_478 : decode cL_hunt 478 = .ok (.invokevirtual 21, 3) := by decide +kernel
theorem dL_hunt_481 : decode cL_hunt 481 = .ok (.if_icmp .ne 7, 3) := by decide +kernel
theorem dL_hunt_484 : decode cL_hunt 484 = .ok (.iconst 1, 1) := by decide +kernel
theorem dL_hunt_485 : decode cL_hunt 485 = .ok (.goto 4, 3) := by decide +kernel
theorem dL_hunt_488 : decode cL_hunt 488 = .ok (.iconst 0, 1) := by decide +kernel
theorem dL_hunt_489 : decode cL_hunt 489 = .ok (.ireturn, 1) := by decide +kernel
def f_L_hunt (x0_isReadingOld : Int32) (x1_size : Int32) (f2 : Nat → Int32) (f3 : Nat → Int32) (f4 : Nat → Int32) (f5 : Nat → Int32) (x6_size : Int32) (x7_areOrdersCounted : Int32) (x7_isAnyOrder : Int32) (x7_size : Int32) (f8 : Nat → Int32) (f9 : Nat → Int32) (f10 : Nat → Int32) (f11 : Nat → Int32) (f12 : Nat → Int32) (f13 : Nat → Int32) (f14 : Nat → Int32) : Option (Int32 × Int32 × Int32 × Int32 × Int32 × (Nat → Int32) × (Nat → Int32) × (Nat → Int32) × (Nat → Int32) × (Nat → Int32) × (Nat → Int32) × (Nat → Int32)) := (f_X4_count 0 x0_isReadingOld x1_size f2 f3 f4 f5 x6_size x7_areOrdersCounted x7_isAnyOrder x7_size f8 f9 f10 f11 f12 f13 f14).bind (u12 fun (r1 : Int32) (o2 : Int32) (o3 : Int32) (o4 : Int32) (o5 : Int32) (o6 : Nat → Int32) (o7 : Nat → Int32) (o8 : Nat → Int32) (o9 : Nat → Int32) (o10 : Nat → Int32) (o11 : Nat → Int32) (o12 : Nat → Int32) => (jn (u12 fun (w13 : Int32) (w14 : Int32) (w15 : Int32) (w16 : Int32) (w17 : Nat → Int32) (w18 : Nat → Int32) (w19 : Nat → Int32) (w20 : Nat → Int32) (w21 : Nat → Int32) (w22 : Nat → Int32) (w23 : Nat → Int32) (s24 : Int32) => (wl (u15 fun (l2_26 : Int32) (l3_27 : Int32) (l4_28 : Int32) (l5_29 : Int32) (l6_30 : Int32) (w31 : Int32) (w32 : Int32) (w33 : Int32) (w34 : Int32) (w35 : Nat → Int32) (w36 : Nat → Int32) (w37 : Nat → Int32) (w38 : Nat → Int32) (w39 : Nat → Int32) (w40 : Nat → Int32) => (if r1 ≤ l6_30 then some (Sum.inr (l2_26, l3_27, l4_28, l5_29, w31, w32, w33, w34, w35, w36, w37, w38, w39, w40)) else (if l5_29 = 0 then some (Sum.inr (l2_26, l3_27, l4_28, l5_29, w31, w32, w33, w34, w35, w36, w37, w38, w39, w40)) else (f_X4_bookOf l6_30 3 w31 x1_size f2 f3 f4 f5 w32 w33 w34 w35 w36 w37 w38 w39 w40).bind (u11 fun (r55 : Int32) (o56 : Int32) (o57 : Int32) (o58 : Int32) (o59 : Int32) (o60 : Nat → Int32) (o61 : Nat → Int32) (o62 : Nat → Int32) (o63 : Nat → Int32) (o64 : Nat → Int32) (o65 : Nat → Int32) => (f_X4_bookOf l6_30 7 o56 x1_size f2 f3 f4 f5 o57 o58 o59 o60 o61 o62 o63 o64 o65).bind (u11 fun (r66 : Int32) (o67 : Int32) (o68 : Int32) (o69 : Int32) (o70 : Int32) (o71 : Nat → Int32) (o72 : Nat → Int32) (o73 : Nat → Int32) (o74 : Nat → Int32) (o75 : Nat → Int32) (o76 : Nat → Int32) => (jn (u1 fun (s77 : Int32) => (f_X4_bookOf l6_30 5 o67 x1_size f2 f3 f4 f5 o68 o69 o70 o71 o72 o73 o74 o75 o76).bind (u11 fun (r79 : Int32) (o80 : Int32) (o81 : Int32) (o82 : Int32) (o83 : Int32) (o84 : Nat → Int32) (o85 : Nat → Int32) (o86 : Nat → Int32) (o87 : Nat → Int32) (o88 : Nat → Int32) (o89 : Nat → Int32) => (jn (u11 fun (w90 : Int32) (w91 : Int32) (w92 : Int32) (w93 : Int32) (w94 : Nat → Int32) (w95 : Nat → Int32) (w96 : Nat → Int32) (w97 : Nat → Int32) (w98 : Nat → Int32) (w99 : Nat → Int32) (s100 : Int32) => (wl (u13 fun (l4_102 : Int32) (l5_103 : Int32) (l8_104 : Int32) (w105 : Int32) (w106 : Int32) (w107 : Int32) (w108 : Int32) (w109 : Nat → Int32) (w110 : Nat → Int32) (w111 : Nat → Int32) (w112 : Nat → Int32) (w113 : Nat → Int32) (w114 : Nat → Int32) => (if l6_30 ≤ l8_104 then some (Sum.inr (l4_102, l5_103, w105, w106, w107, w108, w109, w110, w111, w112, w113, w114)) else (if l5_103 = 0 then some (Sum.inr (l4_102, l5_103, w105, w106, w107, w108, w109, w110, w111, w112, w113, w114)) else (f_X4_bookOf l8_104 0 w105 x1_size f2 f3 f4 f5 w106 w107 w108 w109 w110 w111 w112 w113 w114).bind (u11 fun (r127 : Int32) (o128 : Int32) (o129 : Int32) (o130 : Int32) (o131 : Int32) (o132 : Nat → Int32) (o133 : Nat → Int32) (o134 : Nat → Int32) (o135 : Nat → Int32) (o136 : Nat → Int32) (o137 : Nat → Int32) => (f_X4_bookOf l6_30 0 o128 x1_size f2 f3 f4 f5 o129 o130 o131 o132 o133 o134 o135 o136 o137).bind (u11 fun (r138 : Int32) (o139 : Int32) (o140 : Int32) (o141 : Int32) (o142 : Int32) (o143 : Nat → Int32) (o144 : Nat → Int32) (o145 : Nat → Int32) (o146 : Nat → Int32) (o147 : Nat → Int32) (o148 : Nat → Int32) => (jn (u1 fun (s149 : Int32) => (f_X4_ahead l8_104 l6_30 x1_size f2 f3 f4 f5).bind (u1 fun (r151 : Int32) => (jn (u1 fun (s152 : Int32) => gZ 2 ((jn (u1 fun (s154 : Int32) => (jn (u11 fun (w156 : Int32) (w157 : Int32) (w158 : Int32) (w159 : Int32) (w160 : Nat → Int32) (w161 : Nat → Int32) (w162 : Nat → Int32) (w163 : Nat → Int32) (w164 : Nat → Int32) (w165 : Nat → Int32) (s166 : Int32) => (jn (u11 fun (w168 : Int32) (w169 : Int32) (w170 : Int32) (w171 : Int32) (w172 : Nat → Int32) (w173 : Nat → Int32) (w174 : Nat → Int32) (w175 : Nat → Int32) (w176 : Nat → Int32) (w177 : Nat → Int32) (s178 : Int32) => some (Sum.inl ((l4_102 + s152), s178, (l8_104 + 1), w168, w169, w170, w171, w172, w173, w174, w175, w176, w177))) (fun K179 => jn (u10 fun (w180 : Int32) (w181 : Int32) (w182 : Int32) (w183 : Int32) (w184 : Nat → Int32) (w185 : Nat → Int32) (w186 : Nat → Int32) (w187 : Nat → Int32) (w188 : Nat → Int32) (w189 : Nat → Int32) => K179 (w180, w181, w182, w183, w184, w185, w186, w187, w188, w189, 0)) (fun K190 => (if s154 = s166 then (jn (u1 fun (s191 : Int32) => (f_X4_bookOf l8_104 3 w156 x1_size f2 f3 f4 f5 w157 w158 w159 w160 w161 w162 w163 w164 w165).bind (u11 fun (r193 : Int32) (o194 : Int32) (o195 : Int32) (o196 : Int32) (o197 : Int32) (o198 : Nat → Int32) (o199 : Nat → Int32) (o200 : Nat → Int32) (o201 : Nat → Int32) (o202 : Nat → Int32) (o203 : Nat → Int32) => (jn (u11 fun (w204 : Int32) (w205 : Int32) (w206 : Int32) (w207 : Int32) (w208 : Nat → Int32) (w209 : Nat → Int32) (w210 : Nat → Int32) (w211 : Nat → Int32) (w212 : Nat → Int32) (w213 : Nat → Int32) (s214 : Int32) => (if s191 = s214 then K179 (w204, w205, w206, w207, w208, w209, w210, w211, w212, w213, 1) else K190 (w204, w205, w206, w207, w208, w209, w210, w211, w212, w213))) (fun K215 => jn (u10 fun (w216 : Int32) (w217 : Int32) (w218 : Int32) (w219 : Int32) (w220 : Nat → Int32) (w221 : Nat → Int32) (w222 : Nat → Int32) (w223 : Nat → Int32) (w224 : Nat → Int32) (w225 : Nat → Int32) => K215 (w216, w217, w218, w219, w220, w221, w222, w223, w224, w225, 1)) (fun K226 => (if r193 = (-1) then K226 (o194, o195, o196, o197, o198, o199, o200, o201, o202, o203) else (if r55 = (-1) then K226 (o194, o195, o196, o197, o198, o199, o200, o201, o202, o203) else (f_X4_bookOf l8_104 3 o194 x1_size f2 f3 f4 f5 o195 o196 o197 o198 o199 o200 o201 o202 o203).bind (u11 fun (r227 : Int32) (o228 : Int32) (o229 : Int32) (o230 : Int32) (o231 : Int32) (o232 : Nat → Int32) (o233 : Nat → Int32) (o234 : Nat → Int32) (o235 : Nat → Int32) (o236 : Nat → Int32) (o237 : Nat → Int32) => (if r227 < r55 then K215 (o228, o229, o230, o231, o232, o233, o234, o235, o236, o237, 0) else K226 (o228, o229, o230, o231, o232, o233, o234, o235, o236, o237)))))))))) (fun K192 => (if 4 ≤ r151 then K192 0 else K192 1))) else K190 (w156, w157, w158, w159, w160, w161, w162, w163, w164, w165)))))) (fun K167 => jn (u10 fun (w238 : Int32) (w239 : Int32) (w240 : Int32) (w241 : Int32) (w242 : Nat → Int32) (w243 : Nat → Int32) (w244 : Nat → Int32) (w245 : Nat → Int32) (w246 : Nat → Int32) (w247 : Nat → Int32) => K167 (w238, w239, w240, w241, w242, w243, w244, w245, w246, w247, 0)) (fun K248 => (if s149 = 0 then K248 (o139, o140, o141, o142, o143, o144, o145, o146, o147, o148) else (f_X4_bookOf l6_30 1 o139 x1_size f2 f3 f4 f5 o140 o141 o142 o143 o144 o145 o146 o147 o148).bind (u11 fun (r249 : Int32) (o250 : Int32) (o251 : Int32) (o252 : Int32) (o253 : Int32) (o254 : Nat → Int32) (o255 : Nat → Int32) (o256 : Nat → Int32) (o257 : Nat → Int32) (o258 : Nat → Int32) (o259 : Nat → Int32) => (f_X4_bookOf l8_104 1 o250 x1_size f2 f3 f4 f5 o251 o252 o253 o254 o255 o256 o257 o258 o259).bind (u11 fun (r260 : Int32) (o261 : Int32) (o262 : Int32) (o263 : Int32) (o264 : Int32) (o265 : Nat → Int32) (o266 : Nat → Int32) (o267 : Nat → Int32) (o268 : Nat → Int32) (o269 : Nat → Int32) (o270 : Nat → Int32) => (if (r249 &&& (r260 ^^^ (-1))) = 0 then K248 (o261, o262, o263, o264, o265, o266, o267, o268, o269, o270) else K167 (o261, o262, o263, o264, o265, o266, o267, o268, o269, o270, 1))))))))) (fun K155 => (if (r151 - r151 / 2 * 2) = 1 then K155 1 else K155 0))))) (fun K153 => jn (u0 (K153 0)) (fun K271 => (if r151 ≤ 0 then K271 () else (f_X4_ahead l6_30 l8_104 x1_size f2 f3 f4 f5).bind (u1 fun (r272 : Int32) => (if r272 ≤ 0 then K271 () else K153 1)))))))) (fun K150 => (if r127 = r138 then K150 1 else K150 0)))))))) 9999 (l4_28, s100, 0, w90, w91, w92, w93, w94, w95, w96, w97, w98, w99)).bind (u12 fun (l4_115 : Int32) (l5_116 : Int32) (w117 : Int32) (w118 : Int32) (w119 : Int32) (w120 : Int32) (w121 : Nat → Int32) (w122 : Nat → Int32) (w123 : Nat → Int32) (w124 : Nat → Int32) (w125 : Nat → Int32) (w126 : Nat → Int32) => some (Sum.inl ((l2_26 + r66), (l3_27 + s77), l4_115, l5_116, (l6_30 + 1), w117, w118, w119, w120, w121, w122, w123, w124, w125, w126)))) (fun K101 => jn (u10 fun (w273 : Int32) (w274 : Int32) (w275 : Int32) (w276 : Int32) (w277 : Nat → Int32) (w278 : Nat → Int32) (w279 : Nat → Int32) (w280 : Nat → Int32) (w281 : Nat → Int32) (w282 : Nat → Int32) => K101 (w273, w274, w275, w276, w277, w278, w279, w280, w281, w282, 0)) (fun K283 => (if r79 < 1450 then K283 (o80, o81, o82, o83, o84, o85, o86, o87, o88, o89) else (f_X4_bookOf l6_30 6 o80 x1_size f2 f3 f4 f5 o81 o82 o83 o84 o85 o86 o87 o88 o89).bind (u11 fun (r284 : Int32) (o285 : Int32) (o286 : Int32) (o287 : Int32) (o288 : Int32) (o289 : Nat → Int32) (o290 : Nat → Int32) (o291 : Nat → Int32) (o292 : Nat → Int32) (o293 : Nat → Int32) (o294 : Nat → Int32) => (if 1999 < r284 then K283 (o285, o286, o287, o288, o289, o290, o291, o292, o293, o294) else (jn (u10 fun (w295 : Int32) (w296 : Int32) (w297 : Int32) (w298 : Int32) (w299 : Nat → Int32) (w300 : Nat → Int32) (w301 : Nat → Int32) (w302 : Nat → Int32) (w303 : Nat → Int32) (w304 : Nat → Int32) => (f_X4_bookOf l6_30 7 w295 x1_size f2 f3 f4 f5 w296 w297 w298 w299 w300 w301 w302 w303 w304).bind (u11 fun (r306 : Int32) (o307 : Int32) (o308 : Int32) (o309 : Int32) (o310 : Int32) (o311 : Nat → Int32) (o312 : Nat → Int32) (o313 : Nat → Int32) (o314 : Nat → Int32) (o315 : Nat → Int32) (o316 : Nat → Int32) => (jn (u1 fun (s317 : Int32) => (f_X4_bookOf l6_30 5 o307 x1_size f2 f3 f4 f5 o308 o309 o310 o311 o312 o313 o314 o315 o316).bind (u11 fun (r319 : Int32) (o320 : Int32) (o321 : Int32) (o322 : Int32) (o323 : Int32) (o324 : Nat → Int32) (o325 : Nat → Int32) (o326 : Nat → Int32) (o327 : Nat → Int32) (o328 : Nat → Int32) (o329 : Nat → Int32) => (f_X4_bookOf l6_30 6 o320 x1_size f2 f3 f4 f5 o321 o322 o323 o324 o325 o326 o327 o328 o329).bind (u11 fun (r330 : Int32) (o331 : Int32) (o332 : Int32) (o333 : Int32) (o334 : Int32) (o335 : Nat → Int32) (o336 : Nat → Int32) (o337 : Nat → Int32) (o338 : Nat → Int32) (o339 : Nat → Int32) (o340 : Nat → Int32) => (jn (u1 fun (s341 : Int32) => (if s317 = s341 then (f_X4_bookOf l6_30 4 o331 x1_size f2 f3 f4 f5 o332 o333 o334 o335 o336 o337 o338 o339 o340).bind (u11 fun (r343 : Int32) (o344 : Int32) (o345 : Int32) (o346 : Int32) (o347 : Int32) (o348 : Nat → Int32) (o349 : Nat → Int32) (o350 : Nat → Int32) (o351 : Nat → Int32) (o352 : Nat → Int32) (o353 : Nat → Int32) => (f_X4_bookOf l6_30 1 o344 x1_size f2 f3 f4 f5 o345 o346 o347 o348 o349 o350 o351 o352 o353).bind (u11 fun (r354 : Int32) (o355 : Int32) (o356 : Int32) (o357 : Int32) (o358 : Int32) (o359 : Nat → Int32) (o360 : Nat → Int32) (o361 : Nat → Int32) (o362 : Nat → Int32) (o363 : Nat → Int32) (o364 : Nat → Int32) => (f_L_ones r354).bind (u1 fun (r365 : Int32) => (if r343 = r365 then (f_X4_bookOf l6_30 10 o355 x1_size f2 f3 f4 f5 o356 o357 o358 o359 o360 o361 o362 o363 o364).bind (u11 fun (r366 : Int32) (o367 : Int32) (o368 : Int32) (o369 : Int32) (o370 : Int32) (o371 : Nat → Int32) (o372 : Nat → Int32) (o373 : Nat → Int32) (o374 : Nat → Int32) (o375 : Nat → Int32) (o376 : Nat → Int32) => (f_X4_bookOf l6_30 8 o367 x1_size f2 f3 f4 f5 o368 o369 o370 o371 o372 o373 o374 o375 o376).bind (u11 fun (r377 : Int32) (o378 : Int32) (o379 : Int32) (o380 : Int32) (o381 : Int32) (o382 : Nat → Int32) (o383 : Nat → Int32) (o384 : Nat → Int32) (o385 : Nat → Int32) (o386 : Nat → Int32) (o387 : Nat → Int32) => (if r377 < r366 then K283 (o378, o379, o380, o381, o382, o383, o384, o385, o386, o387) else (f_X4_bookOf l6_30 10 o378 x1_size f2 f3 f4 f5 o379 o380 o381 o382 o383 o384 o385 o386 o387).bind (u11 fun (r388 : Int32) (o389 : Int32) (o390 : Int32) (o391 : Int32) (o392 : Int32) (o393 : Nat → Int32) (o394 : Nat → Int32) (o395 : Nat → Int32) (o396 : Nat → Int32) (o397 : Nat → Int32) (o398 : Nat → Int32) => (f_X4_bookOf l6_30 9 o389 x1_size f2 f3 f4 f5 o390 o391 o392 o393 o394 o395 o396 o397 o398).bind (u11 fun (r399 : Int32) (o400 : Int32) (o401 : Int32) (o402 : Int32) (o403 : Int32) (o404 : Nat → Int32) (o405 : Nat → Int32) (o406 : Nat → Int32) (o407 : Nat → Int32) (o408 : Nat → Int32) (o409 : Nat → Int32) => (if r399 < r388 then K283 (o400, o401, o402, o403, o404, o405, o406, o407, o408, o409) else K101 (o400, o401, o402, o403, o404, o405, o406, o407, o408, o409, 1))))))) else K283 (o355, o356, o357, o358, o359, o360, o361, o362, o363, o364))))) else K283 (o331, o332, o333, o334, o335, o336, o337, o338, o339, o340))) (fun K342 => (if r319 = r330 then K342 1 else K342 0)))))) (fun K318 => (if r306 = 1 then K318 1 else K318 0))))) (fun K305 => (if r55 = (-1) then K305 (o285, o286, o287, o288, o289, o290, o291, o292, o293, o294) else (f_X4_bookOf l6_30 5 o285 x1_size f2 f3 f4 f5 o286 o287 o288 o289 o290 o291 o292 o293 o294).bind (u11 fun (r410 : Int32) (o411 : Int32) (o412 : Int32) (o413 : Int32) (o414 : Int32) (o415 : Nat → Int32) (o416 : Nat → Int32) (o417 : Nat → Int32) (o418 : Nat → Int32) (o419 : Nat → Int32) (o420 : Nat → Int32) => (if r410 < r55 then K283 (o411, o412, o413, o414, o415, o416, o417, o418, o419, o420) else (f_X4_bookOf l6_30 6 o411 x1_size f2 f3 f4 f5 o412 o413 o414 o415 o416 o417 o418 o419 o420).bind (u11 fun (r421 : Int32) (o422 : Int32) (o423 : Int32) (o424 : Int32) (o425 : Int32) (o426 : Nat → Int32) (o427 : Nat → Int32) (o428 : Nat → Int32) (o429 : Nat → Int32) (o430 : Nat → Int32) (o431 : Nat → Int32) => (if r55 < r421 then K283 (o422, o423, o424, o425, o426, o427, o428, o429, o430, o431) else K305 (o422, o423, o424, o425, o426, o427, o428, o429, o430, o431)))))))))))))))) (fun K78 => (if r55 < 0 then K78 0 else K78 1)))))))) 9999 (0, 0, 0, s24, 0, w13, w14, w15, w16, w17, w18, w19, w20, w21, w22)).bind (u14 fun (l2_41 : Int32) (l3_42 : Int32) (l4_43 : Int32) (l5_44 : Int32) (w45 : Int32) (w46 : Int32) (w47 : Int32) (w48 : Int32) (w49 : Nat → Int32) (w50 : Nat → Int32) (w51 : Nat → Int32) (w52 : Nat → Int32) (w53 : Nat → Int32) (w54 : Nat → Int32) => (jn (u12 fun (w432 : Int32) (w433 : Int32) (w434 : Int32) (w435 : Int32) (w436 : Nat → Int32) (w437 : Nat → Int32) (w438 : Nat → Int32) (w439 : Nat → Int32) (w440 : Nat → Int32) (w441 : Nat → Int32) (w442 : Nat → Int32) (s443 : Int32) => gB s443 (some (s443, w432, w433, w434, w435, w436, w437, w438, w439, w440, w441, w442))) (fun K444 => jn (u11 fun (w445 : Int32) (w446 : Int32) (w447 : Int32) (w448 : Int32) (w449 : Nat → Int32) (w450 : Nat → Int32) (w451 : Nat → Int32) (w452 : Nat → Int32) (w453 : Nat → Int32) (w454 : Nat → Int32) (w455 : Nat → Int32) => K444 (w445, w446, w447, w448, w449, w450, w451, w452, w453, w454, w455, 0)) (fun K456 => (if l5_44 = 0 then K456 (w45, w46, w47, w48, w49, w50, w51, w52, w53, w54, w23) else (f_X4_count 1 w45 x1_size f2 f3 f4 f5 x6_size w46 w47 w48 w49 w50 w51 w52 w53 w54 w23).bind (u12 fun (r457 : Int32) (o458 : Int32) (o459 : Int32) (o460 : Int32) (o461 : Int32) (o462 : Nat → Int32) (o463 : Nat → Int32) (o464 : Nat → Int32) (o465 : Nat → Int32) (o466 : Nat → Int32) (o467 : Nat → Int32) (o468 : Nat → Int32) => (if l2_41 = r457 then (f_X4_count 2 o458 x1_size f2 f3 f4 f5 x6_size o459 o460 o461 o462 o463 o464 o465 o466 o467 o468).bind (u12 fun (r469 : Int32) (o470 : Int32) (o471 : Int32) (o472 : Int32) (o473 : Int32) (o474 : Nat → Int32) (o475 : Nat → Int32) (o476 : Nat → Int32) (o477 : Nat → Int32) (o478 : Nat → Int32) (o479 : Nat → Int32) (o480 : Nat → Int32) => (if l3_42 = r469 then (f_X4_count 3 o470 x1_size f2 f3 f4 f5 x6_size o471 o472 o473 o474 o475 o476 o477 o478 o479 o480).bind (u12 fun (r481 : Int32) (o482 : Int32) (o483 : Int32) (o484 : Int32) (o485 : Int32) (o486 : Nat → Int32) (o487 : Nat → Int32) (o488 : Nat → Int32) (o489 : Nat → Int32) (o490 : Nat → Int32) (o491 : Nat → Int32) (o492 : Nat → Int32) => (if l4_43 = r481 then K444 (o482, o483, o484, o485, o486, o487, o488, o489, o490, o491, o492, 1) else K456 (o482, o483, o484, o485, o486, o487, o488, o489, o490, o491, o492))) else K456 (o470, o471, o472, o473, o474, o475, o476, o477, o478, o479, o480))) else K456 (o458, o459, o460, o461, o462, o463, o464, o465, o466, o467, o468))))))))) (fun K25 => jn (u11 fun (w493 : Int32) (w494 : Int32) (w495 : Int32) (w496 : Int32) (w497 : Nat → Int32) (w498 : Nat → Int32) (w499 : Nat → Int32) (w500 : Nat → Int32) (w501 : Nat → Int32) (w502 : Nat → Int32) (w503 : Nat → Int32) => K25 (w493, w494, w495, w496, w497, w498, w499, w500, w501, w502, w503, 0)) (fun K504 => (if 10 < r1 then K504 (o2, o3, o4, o5, o6, o7, o8, o9, o10, o11, o12) else (f_X4_count 7 o2 x1_size f2 f3 f4 f5 x6_size o3 o4 o5 o6 o7 o8 o9 o10 o11 o12).bind (u12 fun (r505 : Int32) (o506 : Int32) (o507 : Int32) (o508 : Int32) (o509 : Int32) (o510 : Nat → Int32) (o511 : Nat → Int32) (o512 : Nat → Int32) (o513 : Nat → Int32) (o514 : Nat → Int32) (o515 : Nat → Int32) (o516 : Nat → Int32) => (f_X4_count 8 o506 x1_size f2 f3 f4 f5 x6_size o507 o508 o509 o510 o511 o512 o513 o514 o515 o516).bind (u12 fun (r517 : Int32) (o518 : Int32) (o519 : Int32) (o520 : Int32) (o521 : Int32) (o522 : Nat → Int32) (o523 : Nat → Int32) (o524 : Nat → Int32) (o525 : Nat → Int32) (o526 : Nat → Int32) (o527 : Nat → Int32) (o528 : Nat → Int32) => (f_X4_count 9 o518 x1_size f2 f3 f4 f5 x6_size o519 o520 o521 o522 o523 o524 o525 o526 o527 o528).bind (u12 fun (r529 : Int32) (o530 : Int32) (o531 : Int32) (o532 : Int32) (o533 : Int32) (o534 : Nat → Int32) (o535 : Nat → Int32) (o536 : Nat → Int32) (o537 : Nat → Int32) (o538 : Nat → Int32) (o539 : Nat → Int32) (o540 : Nat → Int32) => (if ((r505 + r517) + r529) = r1 then K25 (o530, o531, o532, o533, o534, o535, o536, o537, o538, o539, o540, 1) else K504 (o530, o531, o532, o533, o534, o535, o536, o537, o538, o539, o540))))))))))
theorem hd_L_hunt : yL_hunt.cls = RL ∧ yL_hunt.cls ≠ "java/lang/invoke/MethodHandle" ∧ yL_hunt.cls ≠ "java/lang/invoke/VarHandle" ∧ (parseMethodDescriptor yL_hunt.desc).map (fun d => d.parameters.length) = some 1 := by decide +kernel
set_option maxRecDepth 100000 in
set_option maxHeartbeats 4000000 in
theorem c_L_hunt (l : Launch) (D : va_G) (cI cS cL : ClassId) (a0 : Nat) (a1 : Nat) (a2 : Nat) (a3 : Nat) (a4 : Nat) (a5 : Nat) (a6 : Nat) (a7 : Nat) (a8 : Nat) (a9 : Nat) (a10 : Nat) (a11 : Nat) (a12 : Nat) (a13 : Nat) (a14 : Nat) (b0_1 : Nat) (b0_4 : Nat) (b0_5 : Nat) (b0_6 : Nat) (b6_0 : Nat) (x0_length : Int32) (x0_isReadingOld : Int32) (x1_size : Int32) (f2 : Nat → Int32) (f3 : Nat → Int32) (f4 : Nat → Int32) (f5 : Nat → Int32) (x6_size : Int32) (x7_areOrdersCounted : Int32) (x7_isAnyOrder : Int32) (x7_size : Int32) (f8 : Nat → Int32) (f9 : Nat → Int32) (f10 : Nat → Int32) (f11 : Nat → Int32) (f12 : Nat → Int32) (f13 : Nat → Int32) (f14 : Nat → Int32) (rr : Int32) (y0 : Int32) (y1 : Int32) (y2 : Int32) (y3 : Int32) (y4 : Nat → Int32) (y5 : Nat → Int32) (y6 : Nat → Int32) (y7 : Nat → Int32) (y8 : Nat → Int32) (y9 : Nat → Int32) (y10 : Nat → Int32) (hc : f_L_hunt x0_isReadingOld x1_size f2 f3 f4 f5 x6_size x7_areOrdersCounted x7_isAnyOrder x7_size f8 f9 f10 f11 f12 f13 f14 = some (rr, y0, y1, y2, y3, y4, y5, y6, y7, y8, y9, y10)) : KM l yL_hunt wsL_hunt { frames := 6, cells := 0, slots := 0, locals := 133 } D (tyS cI cS cL) [.ref a0] [(a0, .inr (4, [.ref a1, .ref b0_1, .ref a6, .ref a7, .ref b0_4, .ref b0_5, .ref b0_6, .int x0_length, .int x0_isReadingOld])), (a1, .inr (2, [.ref a2, .ref a3, .ref a4, .ref a5, .int x1_size])), (a2, .inl (cI, 10, .inl f2)), (a3, .inl (cI, 10, .inl f3)), (a4, .inl (cI, 10, .inl f4)), (a5, .inl (cI, 10, .inl f5)), (a6, .inr (0, [.ref b6_0, .int x6_size])), (a7, .inr (1, [.ref a8, .ref a9, .ref a10, .ref a11, .ref a12, .ref a13, .ref a14, .int x7_areOrdersCounted, .int x7_isAnyOrder, .int x7_size])), (a8, .inl (cI, 10, .inl f8)), (a9, .inl (cI, 10, .inl f9)), (a10, .inl (cI, 10, .inl f10)), (a11, .inl (cI, 10, .inl f11)), (a12, .inl (cI, 10, .inl f12)), (a13, .inl (cI, 10, .inl f13)), (a14, .inl (cI, 1024, .inl f14))] (some (.int rr)) (fun w => w = [(a0, .inr (4, [.ref a1, .ref b0_1, .ref a6, .ref a7, .ref b0_4, .ref b0_5, .ref b0_6, .int x0_length, .int y0])), (a1, .inr (2, [.ref a2, .ref a3, .ref a4, .ref a5, .int x1_size])), (a2, .inl (cI, 10, .inl f2)), (a3, .inl (cI, 10, .inl f3)), (a4, .inl (cI, 10, .inl f4)), (a5, .inl (cI, 10, .inl f5)), (a6, .inr (0, [.ref b6_0, .int x6_size])), (a7, .inr (1, [.ref a8, .ref a9, .ref a10, .ref a11, .ref a12, .ref a13, .ref a14, .int y1, .int y2, .int y3])), (a8, .inl (cI, 10, .inl y4)), (a9, .inl (cI, 10, .inl y5)), (a10, .inl (cI, 10, .inl y6)), (a11, .inl (cI, 10, .inl y7)), (a12, .inl (cI, 10, .inl y8)), (a13, .inl (cI, 10, .inl y9)), (a14, .inl (cI, 1024, .inl y10))]) 0 0 := by
  refine g_entry (cc := cL_hunt) (nL := 11) (rt := (some .boolean)) (by decide) rfl (Nat.le_of_ble_eq_true rfl) ?_
  intro p e s m args below meth c A (X : GC p s m args c cL_hunt 11 RL wsL_hunt D (tyS cI cS cL) A) hr hlk _ _
  have h := hc
  unfold f_L_hunt at h
  refine g_lv (lv' := [(0, .ref a0)]) [0] rfl ?_
  refine g_aload_n X (j := 0) dL_hunt_0 rfl ?_
  refine g_iconst (v := 0) X dL_hunt_1 (by decide) ?_
  obtain ⟨r1, o2, o3, o4, o5, o6, o7, o8, o9, o10, o11, o12, hc, h⟩ := bd12 h
  refine g_callVF (q0 := 0) (ci := 4) (is := [0, 1, 2, 3, 4, 5, 6, 7, 8, 9, 10, 11, 12, 13, 14]) (isR := []) (wr := []) (As := [.int 0]) (st := []) X (c_X4_count l D cI cS cL a0 a1 a2 a3 a4 a5 a6 a7 a8 a9 a10 a11 a12 a13 a14 b0_1 b0_4 b0_5 b0_6 b6_0 0 x0_length x0_isReadingOld x1_size f2 f3 f4 f5 x6_size x7_areOrdersCounted x7_isAnyOrder x7_size f8 f9 f10 f11 f12 f13 f14 r1 o2 o3 o4 o5 o6 o7 o8 o9 o10 o11 o12 hc) gL_hunt_X4_count rfl ⟨rfl, rfl⟩ hd_X4_count (by exact ⟨Nat.le_of_ble_eq_true rfl, Nat.le_of_ble_eq_true rfl⟩) ⟨Nat.zero_le _, Nat.zero_le _⟩ rfl rfl rfl (by decide +kernel) rfl (by decide +kernel) (by decide +kernel) rfl (Nat.le_of_ble_eq_true rfl) rfl dL_hunt_2 ?_
  rintro _ rfl
  refine g_ws (ws' := [(a0, .inr (4, [.ref a1, .ref b0_1, .ref a6, .ref a7, .ref b0_4, .ref b0_5, .ref b0_6, .int x0_length, .int o2])), (a1, .inr (2, [.ref a2, .ref a3, .ref a4, .ref a5, .int x1_size])), (a2, .inl (cI, 10, .inl f2)), (a3, .inl (cI, 10, .inl f3)), (a4, .inl (cI, 10, .inl f4)), (a5, .inl (cI, 10, .inl f5)), (a6, .inr (0, [.ref b6_0, .int x6_size])), (a7, .inr (1, [.ref a8, .ref a9, .ref a10, .ref a11, .ref a12, .ref a13, .ref a14, .int o3, .int o4, .int o5])), (a8, .inl (cI, 10, .inl o6)), (a9, .inl (cI, 10, .inl o7)), (a10, .inl (cI, 10, .inl o8)), (a11, .inl (cI, 10, .inl o9)), (a12, .inl (cI, 10, .inl o10)), (a13, .inl (cI, 10, .inl o11)), (a14, .inl (cI, 1024, .inl o12))]) [0, 1, 2, 3, 4, 5, 6, 7, 8, 9, 10, 11, 12, 13, 14] rfl (by decide +kernel) ?_
  refine g_istore_n (lv' := [(1, .int r1), (0, .ref a0)]) X dL_hunt_5 rfl (by decide) rfl ?_
  refine g_iconst (v := 0) X dL_hunt_6 (by decide) ?_
  refine g_istore_n (lv' := [(2, .int 0), (1, .int r1), (0, .ref a0)]) X dL_hunt_7 rfl (by decide) rfl ?_
  refine g_iconst (v := 0) X dL_hunt_8 (by decide) ?_
  refine g_istore_n (lv' := [(3, .int 0), (2, .int 0), (1, .int r1), (0, .ref a0)]) X dL_hunt_9 rfl (by decide) rfl ?_
  refine g_iconst (v := 0) X dL_hunt_10 (by decide) ?_
  refine g_istore (lv' := [(4, .int 0), (3, .int 0), (2, .int 0), (1, .int r1), (0, .ref a0)]) X dL_hunt_11 (by decide) rfl ?_
  refine g_iload_n X (j := 3) dL_hunt_13 rfl ?_
  refine g_bipush (v := 10) X dL_hunt_14 (by decide) ?_
  refine jn_g h (u12 fun w13 w14 w15 w16 w17 w18 w19 w20 w21 w22 w23 s24 => [(a0, .inr (4, [.ref a1, .ref b0_1, .ref a6, .ref a7, .ref b0_4, .ref b0_5, .ref b0_6, .int x0_length, .int w13])), (a1, .inr (2, [.ref a2, .ref a3, .ref a4, .ref a5, .int x1_size])), (a2, .inl (cI, 10, .inl f2)), (a3, .inl (cI, 10, .inl f3)), (a4, .inl (cI, 10, .inl f4)), (a5, .inl (cI, 10, .inl f5)), (a6, .inr (0, [.ref b6_0, .int x6_size])), (a7, .inr (1, [.ref a8, .ref a9, .ref a10, .ref a11, .ref a12, .ref a13, .ref a14, .int w14, .int w15, .int w16])), (a8, .inl (cI, 10, .inl w17)), (a9, .inl (cI, 10, .inl w18)), (a10, .inl (cI, 10, .inl w19)), (a11, .inl (cI, 10, .inl w20)), (a12, .inl (cI, 10, .inl w21)), (a13, .inl (cI, 10, .inl w22)), (a14, .inl (cI, 1024, .inl w23))]) (u12 fun w13 w14 w15 w16 w17 w18 w19 w20 w21 w22 w23 s24 => [(0, .ref a0), (1, .int r1), (2, .int 0), (3, .int 0), (4, .int 0)]) (u12 fun w13 w14 w15 w16 w17 w18 w19 w20 w21 w22 w23 s24 => [.int s24]) 48 ?_ ?_
  · rintro ⟨w13, w14, w15, w16, w17, w18, w19, w20, w21, w22, w23, s24⟩ h
    dsimp only [u12] at h ⊢
    refine g_istore (lv' := [(5, .int s24), (0, .ref a0), (1, .int r1), (2, .int 0), (3, .int 0), (4, .int 0)]) X dL_hunt_48 (by decide) rfl ?_
    refine g_iconst (v := 0) X dL_hunt_50 (by decide) ?_
    refine g_istore (lv' := [(6, .int 0), (5, .int s24), (0, .ref a0), (1, .int r1), (2, .int 0), (3, .int 0), (4, .int 0)]) X dL_hunt_51 (by decide) rfl ?_
    refine g_lv (lv' := [(0, .ref a0), (1, .int r1), (2, .int 0), (3, .int 0), (4, .int 0), (5, .int s24), (6, .int 0)]) [2, 3, 4, 5, 6, 1, 0] rfl ?_
    refine wl_g1 h (u15 fun l2_26 l3_27 l4_28 l5_29 l6_30 w31 w32 w33 w34 w35 w36 w37 w38 w39 w40 => [(a0, .inr (4, [.ref a1, .ref b0_1, .ref a6, .ref a7, .ref b0_4, .ref b0_5, .ref b0_6, .int x0_length, .int w31])), (a1, .inr (2, [.ref a2, .ref a3, .ref a4, .ref a5, .int x1_size])), (a2, .inl (cI, 10, .inl f2)), (a3, .inl (cI, 10, .inl f3)), (a4, .inl (cI, 10, .inl f4)), (a5, .inl (cI, 10, .inl f5)), (a6, .inr (0, [.ref b6_0, .int x6_size])), (a7, .inr (1, [.ref a8, .ref a9, .ref a10, .ref a11, .ref a12, .ref a13, .ref a14, .int w32, .int w33, .int w34])), (a8, .inl (cI, 10, .inl w35)), (a9, .inl (cI, 10, .inl w36)), (a10, .inl (cI, 10, .inl w37)), (a11, .inl (cI, 10, .inl w38)), (a12, .inl (cI, 10, .inl w39)), (a13, .inl (cI, 10, .inl w40)), (a14, .inl (cI, 1024, .inl w23))]) (u15 fun l2_26 l3_27 l4_28 l5_29 l6_30 w31 w32 w33 w34 w35 w36 w37 w38 w39 w40 => [(0, .ref a0), (1, .int r1), (2, .int l2_26), (3, .int l3_27), (4, .int l4_28), (5, .int l5_29), (6, .int l6_30)]) rfl rfl (u14 fun l2_41 l3_42 l4_43 l5_44 w45 w46 w47 w48 w49 w50 w51 w52 w53 w54 => [(a0, .inr (4, [.ref a1, .ref b0_1, .ref a6, .ref a7, .ref b0_4, .ref b0_5, .ref b0_6, .int x0_length, .int w45])), (a1, .inr (2, [.ref a2, .ref a3, .ref a4, .ref a5, .int x1_size])), (a2, .inl (cI, 10, .inl f2)), (a3, .inl (cI, 10, .inl f3)), (a4, .inl (cI, 10, .inl f4)), (a5, .inl (cI, 10, .inl f5)), (a6, .inr (0, [.ref b6_0, .int x6_size])), (a7, .inr (1, [.ref a8, .ref a9, .ref a10, .ref a11, .ref a12, .ref a13, .ref a14, .int w46, .int w47, .int w48])), (a8, .inl (cI, 10, .inl w49)), (a9, .inl (cI, 10, .inl w50)), (a10, .inl (cI, 10, .inl w51)), (a11, .inl (cI, 10, .inl w52)), (a12, .inl (cI, 10, .inl w53)), (a13, .inl (cI, 10, .inl w54)), (a14, .inl (cI, 1024, .inl w23))]) (u14 fun l2_41 l3_42 l4_43 l5_44 w45 w46 w47 w48 w49 w50 w51 w52 w53 w54 => [(0, .ref a0), (2, .int l2_41), (3, .int l3_42), (4, .int l4_43), (5, .int l5_44)]) 451 ?_ ?_
    · rintro ⟨l2_41, l3_42, l4_43, l5_44, w45, w46, w47, w48, w49, w50, w51, w52, w53, w54⟩ h
      dsimp only [u14] at h ⊢
      refine g_iload X (j := 4) dL_hunt_451 rfl ?_
      refine jn_g h (u12 fun w432 w433 w434 w435 w436 w437 w438 w439 w440 w441 w442 s443 => [(a0, .inr (4, [.ref a1, .ref b0_1, .ref a6, .ref a7, .ref b0_4, .ref b0_5, .ref b0_6, .int x0_length, .int w432])), (a1, .inr (2, [.ref a2, .ref a3, .ref a4, .ref a5, .int x1_size])), (a2, .inl (cI, 10, .inl f2)), (a3, .inl (cI, 10, .inl f3)), (a4, .inl (cI, 10, .inl f4)), (a5, .inl (cI, 10, .inl f5)), (a6, .inr (0, [.ref b6_0, .int x6_size])), (a7, .inr (1, [.ref a8, .ref a9, .ref a10, .ref a11, .ref a12, .ref a13, .ref a14, .int w433, .int w434, .int w435])), (a8, .inl (cI, 10, .inl w436)), (a9, .inl (cI, 10, .inl w437)), (a10, .inl (cI, 10, .inl w438)), (a11, .inl (cI, 10, .inl w439)), (a12, .inl (cI, 10, .inl w440)), (a13, .inl (cI, 10, .inl w441)), (a14, .inl (cI, 1024, .inl w442))]) (u12 fun w432 w433 w434 w435 w436 w437 w438 w439 w440 w441 w442 s443 => []) (u12 fun w432 w433 w434 w435 w436 w437 w438 w439 w440 w441 w442 s443 => [.int s443]) 489 ?_ ?_
      · rintro ⟨w432, w433, w434, w435, w436, w437, w438, w439, w440, w441, w442, s443⟩ h
        dsimp only [u12] at h ⊢
        obtain ⟨hz, h⟩ := gB_e h
        have h := Option.some.inj h
        simp only [Prod.mk.injEq] at h
        obtain ⟨rfl, rfl, rfl, rfl, rfl, rfl, rfl, rfl, rfl, rfl, rfl, rfl⟩ := h
        exact g_zret X hr hlk hz dL_hunt_489 rfl rfl
      · intro K444 hK444 h
        refine jn_g h (u11 fun w445 w446 w447 w448 w449 w450 w451 w452 w453 w454 w455 => [(a0, .inr (4, [.ref a1, .ref b0_1, .ref a6, .ref a7, .ref b0_4, .ref b0_5, .ref b0_6, .int x0_length, .int w445])), (a1, .inr (2, [.ref a2, .ref a3, .ref a4, .ref a5, .int x1_size])), (a2, .inl (cI, 10, .inl f2)), (a3, .inl (cI, 10, .inl f3)), (a4, .inl (cI, 10, .inl f4)), (a5, .inl (cI, 10, .inl f5)), (a6, .inr (0, [.ref b6_0, .int x6_size])), (a7, .inr (1, [.ref a8, .ref a9, .ref a10, .ref a11, .ref a12, .ref a13, .ref a14, .int w446, .int w447, .int w448])), (a8, .inl (cI, 10, .inl w449)), (a9, .inl (cI, 10, .inl w450)), (a10, .inl (cI, 10, .inl w451)), (a11, .inl (cI, 10, .inl w452)), (a12, .inl (cI, 10, .inl w453)), (a13, .inl (cI, 10, .inl w454)), (a14, .inl (cI, 1024, .inl w455))]) (u11 fun w445 w446 w447 w448 w449 w450 w451 w452 w453 w454 w455 => []) (u11 fun w445 w446 w447 w448 w449 w450 w451 w452 w453 w454 w455 => []) 488 ?_ ?_
        · rintro ⟨w445, w446, w447, w448, w449, w450, w451, w452, w453, w454, w455⟩ h
          dsimp only [u11] at h ⊢
          refine g_iconst (v := 0) X dL_hunt_488 (by decide) ?_
          exact hK444 (w445, w446, w447, w448, w449, w450, w451, w452, w453, w454, w455, 0) h
        · intro K456 hK456 h
          refine g_if_eq (tgt := 488) X h dL_hunt_453 (by decide) (fun h => ?_) (fun h => ?_)
          · refine g_lv (lv' := []) [] rfl ?_
            exact hK456 (w45, w46, w47, w48, w49, w50, w51, w52, w53, w54, w23) h
          · refine g_iload_n X (j := 1) dL_hunt_456 rfl ?_
            refine g_aload_n X (j := 0) dL_hunt_457 rfl ?_
            refine g_iconst (v := 1) X dL_hunt_458 (by decide) ?_
            obtain ⟨r457, o458, o459, o460, o461, o462, o463, o464, o465, o466, o467, o468, hc, h⟩ := bd12 h
            refine g_callVF (q0 := 0) (ci := 4) (is := [0, 1, 2, 3, 4, 5, 6, 7, 8, 9, 10, 11, 12, 13, 14]) (isR := []) (wr := []) (As := [.int 1]) (st := [.int l2_41]) X (c_X4_count l D cI cS cL a0 a1 a2 a3 a4 a5 a6 a7 a8 a9 a10 a11 a12 a13 a14 b0_1 b0_4 b0_5 b0_6 b6_0 1 x0_length w45 x1_size f2 f3 f4 f5 x6_size w46 w47 w48 w49 w50 w51 w52 w53 w54 w23 r457 o458 o459 o460 o461 o462 o463 o464 o465 o466 o467 o468 hc) gL_hunt_X4_count rfl ⟨rfl, rfl⟩ hd_X4_count (by exact ⟨Nat.le_of_ble_eq_true rfl, Nat.le_of_ble_eq_true rfl⟩) ⟨Nat.zero_le _, Nat.zero_le _⟩ rfl rfl rfl (by decide +kernel) rfl (by decide +kernel) (by decide +kernel) rfl (Nat.le_of_ble_eq_true rfl) rfl dL_hunt_459 ?_
            rintro _ rfl
            refine g_ws (ws' := [(a0, .inr (4, [.ref a1, .ref b0_1, .ref a6, .ref a7, .ref b0_4, .ref b0_5, .ref b0_6, .int x0_length, .int o458])), (a1, .inr (2, [.ref a2, .ref a3, .ref a4, .ref a5, .int x1_size])), (a2, .inl (cI, 10, .inl f2)), (a3, .inl (cI, 10, .inl f3)), (a4, .inl (cI, 10, .inl f4)), (a5, .inl (cI, 10, .inl f5)), (a6, .inr (0, [.ref b6_0, .int x6_size])), (a7, .inr (1, [.ref a8, .ref a9, .ref a10, .ref a11, .ref a12, .ref a13, .ref a14, .int o459, .int o460, .int o461])), (a8, .inl (cI, 10, .inl o462)), (a9, .inl (cI, 10, .inl o463)), (a10, .inl (cI, 10, .inl o464)), (a11, .inl (cI, 10, .inl o465)), (a12, .inl (cI, 10, .inl o466)), (a13, .inl (cI, 10, .inl o467)), (a14, .inl (cI, 1024, .inl o468))]) [0, 1, 2, 3, 4, 5, 6, 7, 8, 9, 10, 11, 12, 13, 14] rfl (by decide +kernel) ?_
            refine g_icmp_ne (tgt := 488) X h dL_hunt_462 (by decide) (fun h => ?_) (fun h => ?_)
            · refine g_lv (lv' := []) [] rfl ?_
              exact hK456 (o458, o459, o460, o461, o462, o463, o464, o465, o466, o467, o468) h
            · refine g_iload_n X (j := 2) dL_hunt_465 rfl ?_
              refine g_aload_n X (j := 0) dL_hunt_466 rfl ?_
              refine g_iconst (v := 2) X dL_hunt_467 (by decide) ?_
              obtain ⟨r469, o470, o471, o472, o473, o474, o475, o476, o477, o478, o479, o480, hc, h⟩ := bd12 h
              refine g_callVF (q0 := 0) (ci := 4) (is := [0, 1, 2, 3, 4, 5, 6, 7, 8, 9, 10, 11, 12, 13, 14]) (isR := []) (wr := []) (As := [.int 2]) (st := [.int l3_42]) X (c_X4_count l D cI cS cL a0 a1 a2 a3 a4 a5 a6 a7 a8 a9 a10 a11 a12 a13 a14 b0_1 b0_4 b0_5 b0_6 b6_0 2 x0_length o458 x1_size f2 f3 f4 f5 x6_size o459 o460 o461 o462 o463 o464 o465 o466 o467 o468 r469 o470 o471 o472 o473 o474 o475 o476 o477 o478 o479 o480 hc) gL_hunt_X4_count rfl ⟨rfl, rfl⟩ hd_X4_count (by exact ⟨Nat.le_of_ble_eq_true rfl, Nat.le_of_ble_eq_true rfl⟩) ⟨Nat.zero_le _, Nat.zero_le _⟩ rfl rfl rfl (by decide +kernel) rfl (by decide +kernel) (by decide +kernel) rfl (Nat.le_of_ble_eq_true rfl) rfl dL_hunt_468 ?_
              rintro _ rfl
              refine g_ws (ws' := [(a0, .inr (4, [.ref a1, .ref b0_1, .ref a6, .ref a7, .ref b0_4, .ref b0_5, .ref b0_6, .int x0_length, .int o470])), (a1, .inr (2, [.ref a2, .ref a3, .ref a4, .ref a5, .int x1_size])), (a2, .inl (cI, 10, .inl f2)), (a3, .inl (cI, 10, .inl f3)), (a4, .inl (cI, 10, .inl f4)), (a5, .inl (cI, 10, .inl f5)), (a6, .inr (0, [.ref b6_0, .int x6_size])), (a7, .inr (1, [.ref a8, .ref a9, .ref a10, .ref a11, .ref a12, .ref a13, .ref a14, .int o471, .int o472, .int o473])), (a8, .inl (cI, 10, .inl o474)), (a9, .inl (cI, 10, .inl o475)), (a10, .inl (cI, 10, .inl o476)), (a11, .inl (cI, 10, .inl o477)), (a12, .inl (cI, 10, .inl o478)), (a13, .inl (cI, 10, .inl o479)), (a14, .inl (cI, 1024, .inl o480))]) [0, 1, 2, 3, 4, 5, 6, 7, 8, 9, 10, 11, 12, 13, 14] rfl (by decide +kernel) ?_
              refine g_icmp_ne (tgt := 488) X h dL_hunt_471 (by decide) (fun h => ?_) (fun h => ?_)
              · refine g_lv (lv' := []) [] rfl ?_
                exact hK456 (o470, o471, o472, o473, o474, o475, o476, o477, o478, o479, o480) h
              · refine g_iload X (j := 3) dL_hunt_474 rfl ?_
                refine g_aload_n X (j := 0) dL_hunt_476 rfl ?_
                refine g_iconst (v := 3) X dL_hunt_477 (by decide) ?_
                obtain ⟨r481, o482, o483, o484, o485, o486, o487, o488, o489, o490, o491, o492, hc, h⟩ := bd12 h
                refine g_callVF (q0 := 0) (ci := 4) (is := [0, 1, 2, 3, 4, 5, 6, 7, 8, 9, 10, 11, 12, 13, 14]) (isR := []) (wr := []) (As := [.int 3]) (st := [.int l4_43]) X (c_X4_count l D cI cS cL a0 a1 a2 a3 a4 a5 a6 a7 a8 a9 a10 a11 a12 a13 a14 b0_1 b0_4 b0_5 b0_6 b6_0 3 x0_length o470 x1_size f2 f3 f4 f5 x6_size o471 o472 o473 o474 o475 o476 o477 o478 o479 o480 r481 o482 o483 o484 o485 o486 o487 o488 o489 o490 o491 o492 hc) gL_hunt_X4_count rfl ⟨rfl, rfl⟩ hd_X4_count (by exact ⟨Nat.le_of_ble_eq_true rfl, Nat.le_of_ble_eq_true rfl⟩) ⟨Nat.zero_le _, Nat.zero_le _⟩ rfl rfl rfl (by decide +kernel) rfl (by decide +kernel) (by decide +kernel) rfl (Nat.le_of_ble_eq_true rfl) rfl dL_hunt_478 ?_
                rintro _ rfl
                refine g_ws (ws' := [(a0, .inr (4, [.ref a1, .ref b0_1, .ref a6, .ref a7, .ref b0_4, .ref b0_5, .ref b0_6, .int x0_length, .int o482])), (a1, .inr (2, [.ref a2, .ref a3, .ref a4, .ref a5, .int x1_size])), (a2, .inl (cI, 10, .inl f2)), (a3, .inl (cI, 10, .inl f3)), (a4, .inl (cI, 10, .inl f4)), (a5, .inl (cI, 10, .inl f5)), (a6, .inr (0, [.ref b6_0, .int x6_size])), (a7, .inr (1, [.ref a8, .ref a9, .ref a10, .ref a11, .ref a12, .ref a13, .ref a14, .int o483, .int o484, .int o485])), (a8, .inl (cI, 10, .inl o486)), (a9, .inl (cI, 10, .inl o487)), (a10, .inl (cI, 10, .inl o488)), (a11, .inl (cI, 10, .inl o489)), (a12, .inl (cI, 10, .inl o490)), (a13, .inl (cI, 10, .inl o491)), (a14, .inl (cI, 1024, .inl o492))]) [0, 1, 2, 3, 4, 5, 6, 7, 8, 9, 10, 11, 12, 13, 14] rfl (by decide +kernel) ?_
                refine g_icmp_ne (tgt := 488) X h dL_hunt_481 (by decide) (fun h => ?_) (fun h => ?_)
                · refine g_lv (lv' := []) [] rfl ?_
                  exact hK456 (o482, o483, o484, o485, o486, o487, o488, o489, o490, o491, o492) h
                · refine g_iconst (v := 1) X dL_hunt_484 (by decide) ?_
                  refine g_goto (tgt := 489) X dL_hunt_485 (by decide) ?_
                  refine g_lv (lv' := []) [] rfl ?_
                  exact hK444 (o482, o483, o484, o485, o486, o487, o488, o489, o490, o491, o492, 1) h
    · rintro ⟨l2_26, l3_27, l4_28, l5_29, l6_30, w31, w32, w33, w34, w35, w36, w37, w38, w39, w40⟩ o h hI hE
      dsimp only [u15] at h ⊢
      refine g_iload X (j := 6) dL_hunt_53 rfl ?_
      refine g_iload_n X (j := 1) dL_hunt_55 rfl ?_
      refine g_icmp_ge (tgt := 451) X h dL_hunt_56 (by decide) (fun h => ?_) (fun h => ?_)
      · refine g_lv (lv' := [(0, .ref a0), (2, .int l2_26), (3, .int l3_27), (4, .int l4_28), (5, .int l5_29)]) [0, 2, 3, 4, 5] rfl ?_
        exact hE (l2_26, l3_27, l4_28, l5_29, w31, w32, w33, w34, w35, w36, w37, w38, w39, w40) (Option.some.inj h).symm
      · refine g_iload X (j := 5) dL_hunt_59 rfl ?_
        refine g_if_eq (tgt := 451) X h dL_hunt_61 (by decide) (fun h => ?_) (fun h => ?_)
        · refine g_lv (lv' := [(0, .ref a0), (2, .int l2_26), (3, .int l3_27), (4, .int l4_28), (5, .int l5_29)]) [0, 2, 3, 4, 5] rfl ?_
          exact hE (l2_26, l3_27, l4_28, l5_29, w31, w32, w33, w34, w35, w36, w37, w38, w39, w40) (Option.some.inj h).symm
        · refine g_aload_n X (j := 0) dL_hunt_64 rfl ?_
          refine g_iload X (j := 6) dL_hunt_65 rfl ?_
          refine g_iconst (v := 3) X dL_hunt_67 (by decide) ?_
          obtain ⟨r55, o56, o57, o58, o59, o60, o61, o62, o63, o64, o65, hc, h⟩ := bd11 h
          refine g_callV (q0 := 0) (ci := 4) (is := [0, 1, 2, 3, 4, 5, 7, 8, 9, 10, 11, 12, 13]) (As := [.int l6_30, .int 3]) (ws' := [(a0, .inr (4, [.ref a1, .ref b0_1, .ref a6, .ref a7, .ref b0_4, .ref b0_5, .ref b0_6, .int x0_length, .int o56])), (a1, .inr (2, [.ref a2, .ref a3, .ref a4, .ref a5, .int x1_size])), (a2, .inl (cI, 10, .inl f2)), (a3, .inl (cI, 10, .inl f3)), (a4, .inl (cI, 10, .inl f4)), (a5, .inl (cI, 10, .inl f5)), (a6, .inr (0, [.ref b6_0, .int x6_size])), (a7, .inr (1, [.ref a8, .ref a9, .ref a10, .ref a11, .ref a12, .ref a13, .ref a14, .int o57, .int o58, .int o59])), (a8, .inl (cI, 10, .inl o60)), (a9, .inl (cI, 10, .inl o61)), (a10, .inl (cI, 10, .inl o62)), (a11, .inl (cI, 10, .inl o63)), (a12, .inl (cI, 10, .inl o64)), (a13, .inl (cI, 10, .inl o65)), (a14, .inl (cI, 1024, .inl w23))]) (st := []) X (c_X4_bookOf l D cI cS cL a0 a1 a2 a3 a4 a5 a7 a8 a9 a10 a11 a12 a13 b0_1 a6 b0_4 b0_5 b0_6 a14 l6_30 3 x0_length w31 x1_size f2 f3 f4 f5 w32 w33 w34 w35 w36 w37 w38 w39 w40 r55 o56 o57 o58 o59 o60 o61 o62 o63 o64 o65 hc) gL_hunt_X4_bookOf rfl ⟨rfl, rfl⟩ hd_X4_bookOf (by exact ⟨Nat.le_of_ble_eq_true rfl, Nat.le_of_ble_eq_true rfl⟩) ⟨Nat.zero_le _, Nat.zero_le _⟩ rfl rfl rfl rfl rfl rfl rfl (Nat.le_of_ble_eq_true rfl) rfl dL_hunt_68 ?_
          refine g_istore (lv' := [(7, .int r55), (0, .ref a0), (1, .int r1), (2, .int l2_26), (3, .int l3_27), (4, .int l4_28), (5, .int l5_29), (6, .int l6_30)]) X dL_hunt_71 (by decide) rfl ?_
          refine g_iload_n X (j := 3) dL_hunt_73 rfl ?_
          refine g_aload_n X (j := 1) dL_hunt_74 rfl ?_
          refine g_iload X (j := 7) dL_hunt_75 rfl ?_
          refine g_bipush (v := 7) X dL_hunt_77 (by decide) ?_
          obtain ⟨r66, o67, o68, o69, o70, o71, o72, o73, o74, o75, o76, hc, h⟩ := bd11 h
          refine g_callV (q0 := 0) (ci := 4) (is := [0, 1, 2, 3, 4, 5, 7, 8, 9, 10, 11, 12, 13]) (As := [.int l6_30, .int 7]) (ws' := [(a0, .inr (4, [.ref a1, .ref b0_1, .ref a6, .ref a7, .ref b0_4, .ref b0_5, .ref b0_6, .int x0_length, .int o67])), (a1, .inr (2, [.ref a2, .ref a3, .ref a4, .ref a5, .int x1_size])), (a2, .inl (cI, 10, .inl f2)), (a3, .inl (cI, 10, .inl f3)), (a4, .inl (cI, 10, .inl f4)), (a5, .inl (cI, 10, .inl f5)), (a6, .inr (0, [.ref b6_0, .int x6_size])), (a7, .inr (1, [.ref a8, .ref a9, .ref a10, .ref a11, .ref a12, .ref a13, .ref a14, .int o68, .int o69, .int o70])), (a8, .inl (cI, 10, .inl o71)), (a9, .inl (cI, 10, .inl o72)), (a10, .inl (cI, 10, .inl o73)), (a11, .inl (cI, 10, .inl o74)), (a12, .inl (cI, 10, .inl o75)), (a13, .inl (cI, 10, .inl o76)), (a14, .inl (cI, 1024, .inl w23))]) (st := [.int l2_26]) X (c_X4_bookOf l D cI cS cL a0 a1 a2 a3 a4 a5 a7 a8 a9 a10 a11 a12 a13 b0_1 a6 b0_4 b0_5 b0_6 a14 l6_30 7 x0_length o56 x1_size f2 f3 f4 f5 o57 o58 o59 o60 o61 o62 o63 o64 o65 r66 o67 o68 o69 o70 o71 o72 o73 o74 o75 o76 hc) gL_hunt_X4_bookOf rfl ⟨rfl, rfl⟩ hd_X4_bookOf (by exact ⟨Nat.le_of_ble_eq_true rfl, Nat.le_of_ble_eq_true rfl⟩) ⟨Nat.zero_le _, Nat.zero_le _⟩ rfl rfl rfl rfl rfl rfl rfl (Nat.le_of_ble_eq_true rfl) rfl dL_hunt_79 ?_
          refine g_iadd X dL_hunt_82 ?_
          refine g_istore_n (lv' := [(2, .int (l2_26 + r66)), (7, .int r55), (0, .ref a0), (1, .int r1), (3, .int l3_27), (4, .int l4_28), (5, .int l5_29), (6, .int l6_30)]) X dL_hunt_83 rfl (by decide) rfl ?_
          refine g_iload_n X (j := 4) dL_hunt_84 rfl ?_
          refine g_iload X (j := 1) dL_hunt_85 rfl ?_
          refine jn_g h (u1 fun s77 => [(a0, .inr (4, [.ref a1, .ref b0_1, .ref a6, .ref a7, .ref b0_4, .ref b0_5, .ref b0_6, .int x0_length, .int o67])), (a1, .inr (2, [.ref a2, .ref a3, .ref a4, .ref a5, .int x1_size])), (a2, .inl (cI, 10, .inl f2)), (a3, .inl (cI, 10, .inl f3)), (a4, .inl (cI, 10, .inl f4)), (a5, .inl (cI, 10, .inl f5)), (a6, .inr (0, [.ref b6_0, .int x6_size])), (a7, .inr (1, [.ref a8, .ref a9, .ref a10, .ref a11, .ref a12, .ref a13, .ref a14, .int o68, .int o69, .int o70])), (a8, .inl (cI, 10, .inl o71)), (a9, .inl (cI, 10, .inl o72)), (a10, .inl (cI, 10, .inl o73)), (a11, .inl (cI, 10, .inl o74)), (a12, .inl (cI, 10, .inl o75)), (a13, .inl (cI, 10, .inl o76)), (a14, .inl (cI, 1024, .inl w23))]) (u1 fun s77 => [(0, .ref a0), (1, .int r1), (2, .int (l2_26 + r66)), (4, .int l4_28), (6, .int l6_30), (7, .int r55)]) (u1 fun s77 => [.int s77, .int l3_27]) 95 ?_ ?_
          · rintro s77 h
            dsimp only [u1] at h ⊢
            refine g_iadd X dL_hunt_95 ?_
            refine g_istore_n (lv' := [(3, .int (l3_27 + s77)), (0, .ref a0), (1, .int r1), (2, .int (l2_26 + r66)), (4, .int l4_28), (6, .int l6_30), (7, .int r55)]) X dL_hunt_96 rfl (by decide) rfl ?_
            refine g_aload_n X (j := 1) dL_hunt_97 rfl ?_
            refine g_iload X (j := 5) dL_hunt_98 rfl ?_
            refine g_iconst (v := 5) X dL_hunt_100 (by decide) ?_
            obtain ⟨r79, o80, o81, o82, o83, o84, o85, o86, o87, o88, o89, hc, h⟩ := bd11 h
            refine g_callV (q0 := 0) (ci := 4) (is := [0, 1, 2, 3, 4, 5, 7, 8, 9, 10, 11, 12, 13]) (As := [.int l6_30, .int 5]) (ws' := [(a0, .inr (4, [.ref a1, .ref b0_1, .ref a6, .ref a7, .ref b0_4, .ref b0_5, .ref b0_6, .int x0_length, .int o80])), (a1, .inr (2, [.ref a2, .ref a3, .ref a4, .ref a5, .int x1_size])), (a2, .inl (cI, 10, .inl f2)), (a3, .inl (cI, 10, .inl f3)), (a4, .inl (cI, 10, .inl f4)), (a5, .inl (cI, 10, .inl f5)), (a6, .inr (0, [.ref b6_0, .int x6_size])), (a7, .inr (1, [.ref a8, .ref a9, .ref a10, .ref a11, .ref a12, .ref a13, .ref a14, .int o81, .int o82, .int o83])), (a8, .inl (cI, 10, .inl o84)), (a9, .inl (cI, 10, .inl o85)), (a10, .inl (cI, 10, .inl o86)), (a11, .inl (cI, 10, .inl o87)), (a12, .inl (cI, 10, .inl o88)), (a13, .inl (cI, 10, .inl o89)), (a14, .inl (cI, 1024, .inl w23))]) (st := []) X (c_X4_bookOf l D cI cS cL a0 a1 a2 a3 a4 a5 a7 a8 a9 a10 a11 a12 a13 b0_1 a6 b0_4 b0_5 b0_6 a14 l6_30 5 x0_length o67 x1_size f2 f3 f4 f5 o68 o69 o70 o71 o72 o73 o74 o75 o76 r79 o80 o81 o82 o83 o84 o85 o86 o87 o88 o89 hc) gL_hunt_X4_bookOf rfl ⟨rfl, rfl⟩ hd_X4_bookOf (by exact ⟨Nat.le_of_ble_eq_true rfl, Nat.le_of_ble_eq_true rfl⟩) ⟨Nat.zero_le _, Nat.zero_le _⟩ rfl rfl rfl rfl rfl rfl rfl (Nat.le_of_ble_eq_true rfl) rfl dL_hunt_101 ?_
            refine g_sipush (v := 1450) X dL_hunt_104 (by decide) ?_
            refine jn_g h (u11 fun w90 w91 w92 w93 w94 w95 w96 w97 w98 w99 s100 => [(a0, .inr (4, [.ref a1, .ref b0_1, .ref a6, .ref a7, .ref b0_4, .ref b0_5, .ref b0_6, .int x0_length, .int w90])), (a1, .inr (2, [.ref a2, .ref a3, .ref a4, .ref a5, .int x1_size])), (a2, .inl (cI, 10, .inl f2)), (a3, .inl (cI, 10, .inl f3)), (a4, .inl (cI, 10, .inl f4)), (a5, .inl (cI, 10, .inl f5)), (a6, .inr (0, [.ref b6_0, .int x6_size])), (a7, .inr (1, [.ref a8, .ref a9, .ref a10, .ref a11, .ref a12, .ref a13, .ref a14, .int w91, .int w92, .int w93])), (a8, .inl (cI, 10, .inl w94)), (a9, .inl (cI, 10, .inl w95)), (a10, .inl (cI, 10, .inl w96)), (a11, .inl (cI, 10, .inl w97)), (a12, .inl (cI, 10, .inl w98)), (a13, .inl (cI, 10, .inl w99)), (a14, .inl (cI, 1024, .inl w23))]) (u11 fun w90 w91 w92 w93 w94 w95 w96 w97 w98 w99 s100 => [(0, .ref a0), (1, .int r1), (2, .int (l2_26 + r66)), (3, .int (l3_27 + s77)), (4, .int l4_28), (6, .int l6_30), (7, .int r55)]) (u11 fun w90 w91 w92 w93 w94 w95 w96 w97 w98 w99 s100 => [.int s100]) 261 ?_ ?_
            · rintro ⟨w90, w91, w92, w93, w94, w95, w96, w97, w98, w99, s100⟩ h
              dsimp only [u11] at h ⊢
              refine g_istore (lv' := [(5, .int s100), (0, .ref a0), (1, .int r1), (2, .int (l2_26 + r66)), (3, .int (l3_27 + s77)), (4, .int l4_28), (6, .int l6_30), (7, .int r55)]) X dL_hunt_261 (by decide) rfl ?_
              refine g_iconst (v := 0) X dL_hunt_263 (by decide) ?_
              refine g_istore (lv' := [(8, .int 0), (5, .int s100), (0, .ref a0), (1, .int r1), (2, .int (l2_26 + r66)), (3, .int (l3_27 + s77)), (4, .int l4_28), (6, .int l6_30), (7, .int r55)]) X dL_hunt_264 (by decide) rfl ?_
              refine g_lv (lv' := [(0, .ref a0), (1, .int r1), (2, .int (l2_26 + r66)), (3, .int (l3_27 + s77)), (4, .int l4_28), (5, .int s100), (6, .int l6_30), (7, .int r55), (8, .int 0)]) [2, 3, 4, 5, 6, 1, 7, 8, 0] rfl ?_
              refine wl_g1 h (u13 fun l4_102 l5_103 l8_104 w105 w106 w107 w108 w109 w110 w111 w112 w113 w114 => [(a0, .inr (4, [.ref a1, .ref b0_1, .ref a6, .ref a7, .ref b0_4, .ref b0_5, .ref b0_6, .int x0_length, .int w105])), (a1, .inr (2, [.ref a2, .ref a3, .ref a4, .ref a5, .int x1_size])), (a2, .inl (cI, 10, .inl f2)), (a3, .inl (cI, 10, .inl f3)), (a4, .inl (cI, 10, .inl f4)), (a5, .inl (cI, 10, .inl f5)), (a6, .inr (0, [.ref b6_0, .int x6_size])), (a7, .inr (1, [.ref a8, .ref a9, .ref a10, .ref a11, .ref a12, .ref a13, .ref a14, .int w106, .int w107, .int w108])), (a8, .inl (cI, 10, .inl w109)), (a9, .inl (cI, 10, .inl w110)), (a10, .inl (cI, 10, .inl w111)), (a11, .inl (cI, 10, .inl w112)), (a12, .inl (cI, 10, .inl w113)), (a13, .inl (cI, 10, .inl w114)), (a14, .inl (cI, 1024, .inl w23))]) (u13 fun l4_102 l5_103 l8_104 w105 w106 w107 w108 w109 w110 w111 w112 w113 w114 => [(0, .ref a0), (1, .int r1), (2, .int (l2_26 + r66)), (3, .int (l3_27 + s77)), (4, .int l4_102), (5, .int l5_103), (6, .int l6_30), (7, .int r55), (8, .int l8_104)]) rfl rfl (u12 fun l4_115 l5_116 w117 w118 w119 w120 w121 w122 w123 w124 w125 w126 => [(a0, .inr (4, [.ref a1, .ref b0_1, .ref a6, .ref a7, .ref b0_4, .ref b0_5, .ref b0_6, .int x0_length, .int w117])), (a1, .inr (2, [.ref a2, .ref a3, .ref a4, .ref a5, .int x1_size])), (a2, .inl (cI, 10, .inl f2)), (a3, .inl (cI, 10, .inl f3)), (a4, .inl (cI, 10, .inl f4)), (a5, .inl (cI, 10, .inl f5)), (a6, .inr (0, [.ref b6_0, .int x6_size])), (a7, .inr (1, [.ref a8, .ref a9, .ref a10, .ref a11, .ref a12, .ref a13, .ref a14, .int w118, .int w119, .int w120])), (a8, .inl (cI, 10, .inl w121)), (a9, .inl (cI, 10, .inl w122)), (a10, .inl (cI, 10, .inl w123)), (a11, .inl (cI, 10, .inl w124)), (a12, .inl (cI, 10, .inl w125)), (a13, .inl (cI, 10, .inl w126)), (a14, .inl (cI, 1024, .inl w23))]) (u12 fun l4_115 l5_116 w117 w118 w119 w120 w121 w122 w123 w124 w125 w126 => [(0, .ref a0), (1, .int r1), (2, .int (l2_26 + r66)), (3, .int (l3_27 + s77)), (4, .int l4_115), (5, .int l5_116), (6, .int l6_30)]) 445 ?_ ?_
              · rintro ⟨l4_115, l5_116, w117, w118, w119, w120, w121, w122, w123, w124, w125, w126⟩ h
                dsimp only [u12] at h ⊢
                refine g_iinc (j := 6) (lv' := [(6, .int (l6_30 + 1)), (0, .ref a0), (1, .int r1), (2, .int (l2_26 + r66)), (3, .int (l3_27 + s77)), (4, .int l4_115), (5, .int l5_116)]) X (l6_30 + 1) dL_hunt_445 rfl rfl (by decide) rfl ?_
                refine g_goto (tgt := 53) X dL_hunt_448 (by decide) ?_
                refine g_lv (lv' := [(0, .ref a0), (1, .int r1), (2, .int (l2_26 + r66)), (3, .int (l3_27 + s77)), (4, .int l4_115), (5, .int l5_116), (6, .int (l6_30 + 1))]) [1, 2, 3, 4, 5, 6, 0] rfl ?_
                exact hI ((l2_26 + r66), (l3_27 + s77), l4_115, l5_116, (l6_30 + 1), w117, w118, w119, w120, w121, w122, w123, w124, w125, w126) (Option.some.inj h).symm
              · rintro ⟨l4_102, l5_103, l8_104, w105, w106, w107, w108, w109, w110, w111, w112, w113, w114⟩ o h hI hE
                dsimp only [u13] at h ⊢
                refine g_iload X (j := 8) dL_hunt_266 rfl ?_
                refine g_iload X (j := 6) dL_hunt_268 rfl ?_
                refine g_icmp_ge (tgt := 445) X h dL_hunt_270 (by decide) (fun h => ?_) (fun h => ?_)
                · refine g_lv (lv' := [(0, .ref a0), (1, .int r1), (2, .int (l2_26 + r66)), (3, .int (l3_27 + s77)), (4, .int l4_102), (5, .int l5_103), (6, .int l6_30)]) [0, 1, 2, 3, 4, 5, 6] rfl ?_
                  exact hE (l4_102, l5_103, w105, w106, w107, w108, w109, w110, w111, w112, w113, w114) (Option.some.inj h).symm
                · refine g_iload X (j := 5) dL_hunt_273 rfl ?_
                  refine g_if_eq (tgt := 445) X h dL_hunt_275 (by decide) (fun h => ?_) (fun h => ?_)
                  · refine g_lv (lv' := [(0, .ref a0), (1, .int r1), (2, .int (l2_26 + r66)), (3, .int (l3_27 + s77)), (4, .int l4_102), (5, .int l5_103), (6, .int l6_30)]) [0, 1, 2, 3, 4, 5, 6] rfl ?_
                    exact hE (l4_102, l5_103, w105, w106, w107, w108, w109, w110, w111, w112, w113, w114) (Option.some.inj h).symm
                  · refine g_aload_n X (j := 0) dL_hunt_278 rfl ?_
                    refine g_iload X (j := 8) dL_hunt_279 rfl ?_
                    refine g_iconst (v := 0) X dL_hunt_281 (by decide) ?_
                    obtain ⟨r127, o128, o129, o130, o131, o132, o133, o134, o135, o136, o137, hc, h⟩ := bd11 h
                    refine g_callV (q0 := 0) (ci := 4) (is := [0, 1, 2, 3, 4, 5, 7, 8, 9, 10, 11, 12, 13]) (As := [.int l8_104, .int 0]) (ws' := [(a0, .inr (4, [.ref a1, .ref b0_1, .ref a6, .ref a7, .ref b0_4, .ref b0_5, .ref b0_6, .int x0_length, .int o128])), (a1, .inr (2, [.ref a2, .ref a3, .ref a4, .ref a5, .int x1_size])), (a2, .inl (cI, 10, .inl f2)), (a3, .inl (cI, 10, .inl f3)), (a4, .inl (cI, 10, .inl f4)), (a5, .inl (cI, 10, .inl f5)), (a6, .inr (0, [.ref b6_0, .int x6_size])), (a7, .inr (1, [.ref a8, .ref a9, .ref a10, .ref a11, .ref a12, .ref a13, .ref a14, .int o129, .int o130, .int o131])), (a8, .inl (cI, 10, .inl o132)), (a9, .inl (cI, 10, .inl o133)), (a10, .inl (cI, 10, .inl o134)), (a11, .inl (cI, 10, .inl o135)), (a12, .inl (cI, 10, .inl o136)), (a13, .inl (cI, 10, .inl o137)), (a14, .inl (cI, 1024, .inl w23))]) (st := []) X (c_X4_bookOf l D cI cS cL a0 a1 a2 a3 a4 a5 a7 a8 a9 a10 a11 a12 a13 b0_1 a6 b0_4 b0_5 b0_6 a14 l8_104 0 x0_length w105 x1_size f2 f3 f4 f5 w106 w107 w108 w109 w110 w111 w112 w113 w114 r127 o128 o129 o130 o131 o132 o133 o134 o135 o136 o137 hc) gL_hunt_X4_bookOf rfl ⟨rfl, rfl⟩ hd_X4_bookOf (by exact ⟨Nat.le_of_ble_eq_true rfl, Nat.le_of_ble_eq_true rfl⟩) ⟨Nat.zero_le _, Nat.zero_le _⟩ rfl rfl rfl rfl rfl rfl rfl (Nat.le_of_ble_eq_true rfl) rfl dL_hunt_282 ?_
                    refine g_aload_n X (j := 0) dL_hunt_285 rfl ?_
                    refine g_iload X (j := 6) dL_hunt_286 rfl ?_
                    refine g_iconst (v := 0) X dL_hunt_288 (by decide) ?_
                    obtain ⟨r138, o139, o140, o141, o142, o143, o144, o145, o146, o147, o148, hc, h⟩ := bd11 h
                    refine g_callV (q0 := 0) (ci := 4) (is := [0, 1, 2, 3, 4, 5, 7, 8, 9, 10, 11, 12, 13]) (As := [.int l6_30, .int 0]) (ws' := [(a0, .inr (4, [.ref a1, .ref b0_1, .ref a6, .ref a7, .ref b0_4, .ref b0_5, .ref b0_6, .int x0_length, .int o139])), (a1, .inr (2, [.ref a2, .ref a3, .ref a4, .ref a5, .int x1_size])), (a2, .inl (cI, 10, .inl f2)), (a3, .inl (cI, 10, .inl f3)), (a4, .inl (cI, 10, .inl f4)), (a5, .inl (cI, 10, .inl f5)), (a6, .inr (0, [.ref b6_0, .int x6_size])), (a7, .inr (1, [.ref a8, .ref a9, .ref a10, .ref a11, .ref a12, .ref a13, .ref a14, .int o140, .int o141, .int o142])), (a8, .inl (cI, 10, .inl o143)), (a9, .inl (cI, 10, .inl o144)), (a10, .inl (cI, 10, .inl o145)), (a11, .inl (cI, 10, .inl o146)), (a12, .inl (cI, 10, .inl o147)), (a13, .inl (cI, 10, .inl o148)), (a14, .inl (cI, 1024, .inl w23))]) (st := [.int r127]) X (c_X4_bookOf l D cI cS cL a0 a1 a2 a3 a4 a5 a7 a8 a9 a10 a11 a12 a13 b0_1 a6 b0_4 b0_5 b0_6 a14 l6_30 0 x0_length o128 x1_size f2 f3 f4 f5 o129 o130 o131 o132 o133 o134 o135 o136 o137 r138 o139 o140 o141 o142 o143 o144 o145 o146 o147 o148 hc) gL_hunt_X4_bookOf rfl ⟨rfl, rfl⟩ hd_X4_bookOf (by exact ⟨Nat.le_of_ble_eq_true rfl, Nat.le_of_ble_eq_true rfl⟩) ⟨Nat.zero_le _, Nat.zero_le _⟩ rfl rfl rfl rfl rfl rfl rfl (Nat.le_of_ble_eq_true rfl) rfl dL_hunt_289 ?_
                    refine jn_g h (u1 fun s149 => [(a0, .inr (4, [.ref a1, .ref b0_1, .ref a6, .ref a7, .ref b0_4, .ref b0_5, .ref b0_6, .int x0_length, .int o139])), (a1, .inr (2, [.ref a2, .ref a3, .ref a4, .ref a5, .int x1_size])), (a2, .inl (cI, 10, .inl f2)), (a3, .inl (cI, 10, .inl f3)), (a4, .inl (cI, 10, .inl f4)), (a5, .inl (cI, 10, .inl f5)), (a6, .inr (0, [.ref b6_0, .int x6_size])), (a7, .inr (1, [.ref a8, .ref a9, .ref a10, .ref a11, .ref a12, .ref a13, .ref a14, .int o140, .int o141, .int o142])), (a8, .inl (cI, 10, .inl o143)), (a9, .inl (cI, 10, .inl o144)), (a10, .inl (cI, 10, .inl o145)), (a11, .inl (cI, 10, .inl o146)), (a12, .inl (cI, 10, .inl o147)), (a13, .inl (cI, 10, .inl o148)), (a14, .inl (cI, 1024, .inl w23))]) (u1 fun s149 => [(0, .ref a0), (1, .int r1), (2, .int (l2_26 + r66)), (3, .int (l3_27 + s77)), (4, .int l4_102), (6, .int l6_30), (7, .int r55), (8, .int l8_104)]) (u1 fun s149 => [.int s149]) 300 ?_ ?_
                    · rintro s149 h
                      dsimp only [u1] at h ⊢
                      refine g_istore (lv' := [(9, .int s149), (0, .ref a0), (1, .int r1), (2, .int (l2_26 + r66)), (3, .int (l3_27 + s77)), (4, .int l4_102), (6, .int l6_30), (7, .int r55), (8, .int l8_104)]) X dL_hunt_300 (by decide) rfl ?_
                      refine g_aload_n X (j := 1) dL_hunt_302 rfl ?_
                      refine g_iload X (j := 8) dL_hunt_303 rfl ?_
                      refine g_iload X (j := 6) dL_hunt_305 rfl ?_
                      obtain ⟨r151, hc, h⟩ := bd1 h
                      refine g_callV (q0 := 0) (ci := 4) (is := [0, 1, 2, 3, 4, 5]) (As := [.int l8_104, .int l6_30]) (ws' := [(a0, .inr (4, [.ref a1, .ref b0_1, .ref a6, .ref a7, .ref b0_4, .ref b0_5, .ref b0_6, .int x0_length, .int o139])), (a1, .inr (2, [.ref a2, .ref a3, .ref a4, .ref a5, .int x1_size])), (a2, .inl (cI, 10, .inl f2)), (a3, .inl (cI, 10, .inl f3)), (a4, .inl (cI, 10, .inl f4)), (a5, .inl (cI, 10, .inl f5)), (a6, .inr (0, [.ref b6_0, .int x6_size])), (a7, .inr (1, [.ref a8, .ref a9, .ref a10, .ref a11, .ref a12, .ref a13, .ref a14, .int o140, .int o141, .int o142])), (a8, .inl (cI, 10, .inl o143)), (a9, .inl (cI, 10, .inl o144)), (a10, .inl (cI, 10, .inl o145)), (a11, .inl (cI, 10, .inl o146)), (a12, .inl (cI, 10, .inl o147)), (a13, .inl (cI, 10, .inl o148)), (a14, .inl (cI, 1024, .inl w23))]) (st := []) X (c_X4_ahead l D cI cS cL a0 a1 a2 a3 a4 a5 b0_1 a6 a7 b0_4 b0_5 b0_6 l8_104 l6_30 x0_length o139 x1_size f2 f3 f4 f5 r151 hc) gL_hunt_X4_ahead rfl ⟨rfl, rfl⟩ hd_X4_ahead (by exact ⟨Nat.le_of_ble_eq_true rfl, Nat.le_of_ble_eq_true rfl⟩) ⟨Nat.zero_le _, Nat.zero_le _⟩ rfl rfl rfl rfl rfl rfl rfl (Nat.le_of_ble_eq_true rfl) rfl dL_hunt_307 ?_
                      refine g_istore (lv' := [(10, .int r151), (9, .int s149), (0, .ref a0), (1, .int r1), (2, .int (l2_26 + r66)), (3, .int (l3_27 + s77)), (4, .int l4_102), (6, .int l6_30), (7, .int r55), (8, .int l8_104)]) X dL_hunt_310 (by decide) rfl ?_
                      refine g_iload X (j := 6) dL_hunt_312 rfl ?_
                      refine g_iload X (j := 0) dL_hunt_314 rfl ?_
                      refine jn_g h (u1 fun s152 => [(a0, .inr (4, [.ref a1, .ref b0_1, .ref a6, .ref a7, .ref b0_4, .ref b0_5, .ref b0_6, .int x0_length, .int o139])), (a1, .inr (2, [.ref a2, .ref a3, .ref a4, .ref a5, .int x1_size])), (a2, .inl (cI, 10, .inl f2)), (a3, .inl (cI, 10, .inl f3)), (a4, .inl (cI, 10, .inl f4)), (a5, .inl (cI, 10, .inl f5)), (a6, .inr (0, [.ref b6_0, .int x6_size])), (a7, .inr (1, [.ref a8, .ref a9, .ref a10, .ref a11, .ref a12, .ref a13, .ref a14, .int o140, .int o141, .int o142])), (a8, .inl (cI, 10, .inl o143)), (a9, .inl (cI, 10, .inl o144)), (a10, .inl (cI, 10, .inl o145)), (a11, .inl (cI, 10, .inl o146)), (a12, .inl (cI, 10, .inl o147)), (a13, .inl (cI, 10, .inl o148)), (a14, .inl (cI, 1024, .inl w23))]) (u1 fun s152 => [(0, .ref a0), (1, .int r1), (2, .int (l2_26 + r66)), (3, .int (l3_27 + s77)), (6, .int l6_30), (7, .int r55), (8, .int l8_104), (9, .int s149), (10, .int r151)]) (u1 fun s152 => [.int s152, .int l4_102]) 335 ?_ ?_
                      · rintro s152 h
                        dsimp only [u1] at h ⊢
                        refine g_iadd X dL_hunt_335 ?_
                        refine g_istore (lv' := [(4, .int (l4_102 + s152)), (0, .ref a0), (1, .int r1), (2, .int (l2_26 + r66)), (3, .int (l3_27 + s77)), (6, .int l6_30), (7, .int r55), (8, .int l8_104), (9, .int s149), (10, .int r151)]) X dL_hunt_336 (by decide) rfl ?_
                        refine g_iload X (j := 9) dL_hunt_338 rfl ?_
                        refine g_iconst (v := 2) X dL_hunt_340 (by decide) ?_
                        refine g_irem X h dL_hunt_341 (fun h => ?_)
                        refine g_iconst (v := 1) X dL_hunt_342 (by decide) ?_
                        refine jn_g h (u1 fun s154 => [(a0, .inr (4, [.ref a1, .ref b0_1, .ref a6, .ref a7, .ref b0_4, .ref b0_5, .ref b0_6, .int x0_length, .int o139])), (a1, .inr (2, [.ref a2, .ref a3, .ref a4, .ref a5, .int x1_size])), (a2, .inl (cI, 10, .inl f2)), (a3, .inl (cI, 10, .inl f3)), (a4, .inl (cI, 10, .inl f4)), (a5, .inl (cI, 10, .inl f5)), (a6, .inr (0, [.ref b6_0, .int x6_size])), (a7, .inr (1, [.ref a8, .ref a9, .ref a10, .ref a11, .ref a12, .ref a13, .ref a14, .int o140, .int o141, .int o142])), (a8, .inl (cI, 10, .inl o143)), (a9, .inl (cI, 10, .inl o144)), (a10, .inl (cI, 10, .inl o145)), (a11, .inl (cI, 10, .inl o146)), (a12, .inl (cI, 10, .inl o147)), (a13, .inl (cI, 10, .inl o148)), (a14, .inl (cI, 1024, .inl w23))]) (u1 fun s154 => [(0, .ref a0), (1, .int r1), (2, .int (l2_26 + r66)), (3, .int (l3_27 + s77)), (4, .int (l4_102 + s152)), (6, .int l6_30), (7, .int r55), (8, .int l8_104), (9, .int s149), (10, .int r151)]) (u1 fun s154 => [.int s154]) 351 ?_ ?_
                        · rintro s154 h
                          dsimp only [u1] at h ⊢
                          refine g_iload X (j := 8) dL_hunt_351 rfl ?_
                          refine jn_g h (u11 fun w156 w157 w158 w159 w160 w161 w162 w163 w164 w165 s166 => [(a0, .inr (4, [.ref a1, .ref b0_1, .ref a6, .ref a7, .ref b0_4, .ref b0_5, .ref b0_6, .int x0_length, .int w156])), (a1, .inr (2, [.ref a2, .ref a3, .ref a4, .ref a5, .int x1_size])), (a2, .inl (cI, 10, .inl f2)), (a3, .inl (cI, 10, .inl f3)), (a4, .inl (cI, 10, .inl f4)), (a5, .inl (cI, 10, .inl f5)), (a6, .inr (0, [.ref b6_0, .int x6_size])), (a7, .inr (1, [.ref a8, .ref a9, .ref a10, .ref a11, .ref a12, .ref a13, .ref a14, .int w157, .int w158, .int w159])), (a8, .inl (cI, 10, .inl w160)), (a9, .inl (cI, 10, .inl w161)), (a10, .inl (cI, 10, .inl w162)), (a11, .inl (cI, 10, .inl w163)), (a12, .inl (cI, 10, .inl w164)), (a13, .inl (cI, 10, .inl w165)), (a14, .inl (cI, 1024, .inl w23))]) (u11 fun w156 w157 w158 w159 w160 w161 w162 w163 w164 w165 s166 => [(0, .ref a0), (1, .int r1), (2, .int (l2_26 + r66)), (3, .int (l3_27 + s77)), (4, .int (l4_102 + s152)), (6, .int l6_30), (7, .int r55), (8, .int l8_104), (10, .int r151)]) (u11 fun w156 w157 w158 w159 w160 w161 w162 w163 w164 w165 s166 => [.int s166, .int s154]) 381 ?_ ?_
                          · rintro ⟨w156, w157, w158, w159, w160, w161, w162, w163, w164, w165, s166⟩ h
                            dsimp only [u11] at h ⊢
                            refine jn_g h (u11 fun w168 w169 w170 w171 w172 w173 w174 w175 w176 w177 s178 => [(a0, .inr (4, [.ref a1, .ref b0_1, .ref a6, .ref a7, .ref b0_4, .ref b0_5, .ref b0_6, .int x0_length, .int w168])), (a1, .inr (2, [.ref a2, .ref a3, .ref a4, .ref a5, .int x1_size])), (a2, .inl (cI, 10, .inl f2)), (a3, .inl (cI, 10, .inl f3)), (a4, .inl (cI, 10, .inl f4)), (a5, .inl (cI, 10, .inl f5)), (a6, .inr (0, [.ref b6_0, .int x6_size])), (a7, .inr (1, [.ref a8, .ref a9, .ref a10, .ref a11, .ref a12, .ref a13, .ref a14, .int w169, .int w170, .int w171])), (a8, .inl (cI, 10, .inl w172)), (a9, .inl (cI, 10, .inl w173)), (a10, .inl (cI, 10, .inl w174)), (a11, .inl (cI, 10, .inl w175)), (a12, .inl (cI, 10, .inl w176)), (a13, .inl (cI, 10, .inl w177)), (a14, .inl (cI, 1024, .inl w23))]) (u11 fun w168 w169 w170 w171 w172 w173 w174 w175 w176 w177 s178 => [(0, .ref a0), (1, .int r1), (2, .int (l2_26 + r66)), (3, .int (l3_27 + s77)), (4, .int (l4_102 + s152)), (6, .int l6_30), (7, .int r55), (8, .int l8_104)]) (u11 fun w168 w169 w170 w171 w172 w173 w174 w175 w176 w177 s178 => [.int s178]) 437 ?_ ?_
                            · rintro ⟨w168, w169, w170, w171, w172, w173, w174, w175, w176, w177, s178⟩ h
                              dsimp only [u11] at h ⊢
                              refine g_istore (lv' := [(5, .int s178), (0, .ref a0), (1, .int r1), (2, .int (l2_26 + r66)), (3, .int (l3_27 + s77)), (4, .int (l4_102 + s152)), (6, .int l6_30), (7, .int r55), (8, .int l8_104)]) X dL_hunt_437 (by decide) rfl ?_
                              refine g_iinc (j := 8) (lv' := [(8, .int (l8_104 + 1)), (5, .int s178), (0, .ref a0), (1, .int r1), (2, .int (l2_26 + r66)), (3, .int (l3_27 + s77)), (4, .int (l4_102 + s152)), (6, .int l6_30), (7, .int r55)]) X (l8_104 + 1) dL_hunt_439 rfl rfl (by decide) rfl ?_
                              refine g_goto (tgt := 266) X dL_hunt_442 (by decide) ?_
                              refine g_lv (lv' := [(0, .ref a0), (1, .int r1), (2, .int (l2_26 + r66)), (3, .int (l3_27 + s77)), (4, .int (l4_102 + s152)), (5, .int s178), (6, .int l6_30), (7, .int r55), (8, .int (l8_104 + 1))]) [2, 3, 4, 5, 6, 1, 7, 8, 0] rfl ?_
                              exact hI ((l4_102 + s152), s178, (l8_104 + 1), w168, w169, w170, w171, w172, w173, w174, w175, w176, w177) (Option.some.inj h).symm
                            · intro K179 hK179 h
                              refine jn_g h (u10 fun w180 w181 w182 w183 w184 w185 w186 w187 w188 w189 => [(a0, .inr (4, [.ref a1, .ref b0_1, .ref a6, .ref a7, .ref b0_4, .ref b0_5, .ref b0_6, .int x0_length, .int w180])), (a1, .inr (2, [.ref a2, .ref a3, .ref a4, .ref a5, .int x1_size])), (a2, .inl (cI, 10, .inl f2)), (a3, .inl (cI, 10, .inl f3)), (a4, .inl (cI, 10, .inl f4)), (a5, .inl (cI, 10, .inl f5)), (a6, .inr (0, [.ref b6_0, .int x6_size])), (a7, .inr (1, [.ref a8, .ref a9, .ref a10, .ref a11, .ref a12, .ref a13, .ref a14, .int w181, .int w182, .int w183])), (a8, .inl (cI, 10, .inl w184)), (a9, .inl (cI, 10, .inl w185)), (a10, .inl (cI, 10, .inl w186)), (a11, .inl (cI, 10, .inl w187)), (a12, .inl (cI, 10, .inl w188)), (a13, .inl (cI, 10, .inl w189)), (a14, .inl (cI, 1024, .inl w23))]) (u10 fun w180 w181 w182 w183 w184 w185 w186 w187 w188 w189 => [(0, .ref a0), (1, .int r1), (2, .int (l2_26 + r66)), (3, .int (l3_27 + s77)), (4, .int (l4_102 + s152)), (6, .int l6_30), (7, .int r55), (8, .int l8_104)]) (u10 fun w180 w181 w182 w183 w184 w185 w186 w187 w188 w189 => []) 436 ?_ ?_
                              · rintro ⟨w180, w181, w182, w183, w184, w185, w186, w187, w188, w189⟩ h
                                dsimp only [u10] at h ⊢
                                refine g_iconst (v := 0) X dL_hunt_436 (by decide) ?_
                                exact hK179 (w180, w181, w182, w183, w184, w185, w186, w187, w188, w189, 0) h
                              · intro K190 hK190 h
                                refine g_icmp_ne (tgt := 436) X h dL_hunt_381 (by decide) (fun h => ?_) (fun h => ?_)
                                · refine g_lv (lv' := [(0, .ref a0), (1, .int r1), (2, .int (l2_26 + r66)), (3, .int (l3_27 + s77)), (4, .int (l4_102 + s152)), (6, .int l6_30), (7, .int r55), (8, .int l8_104)]) [0, 1, 2, 3, 4, 5, 6, 7] rfl ?_
                                  exact hK190 (w156, w157, w158, w159, w160, w161, w162, w163, w164, w165) h
                                · refine g_iload X (j := 8) dL_hunt_384 rfl ?_
                                  refine g_iconst (v := 4) X dL_hunt_386 (by decide) ?_
                                  refine jn_g h (u1 fun s191 => [(a0, .inr (4, [.ref a1, .ref b0_1, .ref a6, .ref a7, .ref b0_4, .ref b0_5, .ref b0_6, .int x0_length, .int w156])), (a1, .inr (2, [.ref a2, .ref a3, .ref a4, .ref a5, .int x1_size])), (a2, .inl (cI, 10, .inl f2)), (a3, .inl (cI, 10, .inl f3)), (a4, .inl (cI, 10, .inl f4)), (a5, .inl (cI, 10, .inl f5)), (a6, .inr (0, [.ref b6_0, .int x6_size])), (a7, .inr (1, [.ref a8, .ref a9, .ref a10, .ref a11, .ref a12, .ref a13, .ref a14, .int w157, .int w158, .int w159])), (a8, .inl (cI, 10, .inl w160)), (a9, .inl (cI, 10, .inl w161)), (a10, .inl (cI, 10, .inl w162)), (a11, .inl (cI, 10, .inl w163)), (a12, .inl (cI, 10, .inl w164)), (a13, .inl (cI, 10, .inl w165)), (a14, .inl (cI, 1024, .inl w23))]) (u1 fun s191 => [(0, .ref a0), (1, .int r1), (2, .int (l2_26 + r66)), (3, .int (l3_27 + s77)), (4, .int (l4_102 + s152)), (6, .int l6_30), (7, .int r55), (8, .int l8_104)]) (u1 fun s191 => [.int s191]) 395 ?_ ?_
                                  · rintro s191 h
                                    dsimp only [u1] at h ⊢
                                    refine g_aload_n X (j := 0) dL_hunt_395 rfl ?_
                                    refine g_iload X (j := 7) dL_hunt_396 rfl ?_
                                    refine g_iconst (v := 3) X dL_hunt_398 (by decide) ?_
                                    obtain ⟨r193, o194, o195, o196, o197, o198, o199, o200, o201, o202, o203, hc, h⟩ := bd11 h
                                    refine g_callV (q0 := 0) (ci := 4) (is := [0, 1, 2, 3, 4, 5, 7, 8, 9, 10, 11, 12, 13]) (As := [.int l8_104, .int 3]) (ws' := [(a0, .inr (4, [.ref a1, .ref b0_1, .ref a6, .ref a7, .ref b0_4, .ref b0_5, .ref b0_6, .int x0_length, .int o194])), (a1, .inr (2, [.ref a2, .ref a3, .ref a4, .ref a5, .int x1_size])), (a2, .inl (cI, 10, .inl f2)), (a3, .inl (cI, 10, .inl f3)), (a4, .inl (cI, 10, .inl f4)), (a5, .inl (cI, 10, .inl f5)), (a6, .inr (0, [.ref b6_0, .int x6_size])), (a7, .inr (1, [.ref a8, .ref a9, .ref a10, .ref a11, .ref a12, .ref a13, .ref a14, .int o195, .int o196, .int o197])), (a8, .inl (cI, 10, .inl o198)), (a9, .inl (cI, 10, .inl o199)), (a10, .inl (cI, 10, .inl o200)), (a11, .inl (cI, 10, .inl o201)), (a12, .inl (cI, 10, .inl o202)), (a13, .inl (cI, 10, .inl o203)), (a14, .inl (cI, 1024, .inl w23))]) (st := [.int s191]) X (c_X4_bookOf l D cI cS cL a0 a1 a2 a3 a4 a5 a7 a8 a9 a10 a11 a12 a13 b0_1 a6 b0_4 b0_5 b0_6 a14 l8_104 3 x0_length w156 x1_size f2 f3 f4 f5 w157 w158 w159 w160 w161 w162 w163 w164 w165 r193 o194 o195 o196 o197 o198 o199 o200 o201 o202 o203 hc) gL_hunt_X4_bookOf rfl ⟨rfl, rfl⟩ hd_X4_bookOf (by exact ⟨Nat.le_of_ble_eq_true rfl, Nat.le_of_ble_eq_true rfl⟩) ⟨Nat.zero_le _, Nat.zero_le _⟩ rfl rfl rfl rfl rfl rfl rfl (Nat.le_of_ble_eq_true rfl) rfl dL_hunt_399 ?_
                                    refine g_iconst (v := (-1)) X dL_hunt_402 (by decide) ?_
                                    refine jn_g h (u11 fun w204 w205 w206 w207 w208 w209 w210 w211 w212 w213 s214 => [(a0, .inr (4, [.ref a1, .ref b0_1, .ref a6, .ref a7, .ref b0_4, .ref b0_5, .ref b0_6, .int x0_length, .int w204])), (a1, .inr (2, [.ref a2, .ref a3, .ref a4, .ref a5, .int x1_size])), (a2, .inl (cI, 10, .inl f2)), (a3, .inl (cI, 10, .inl f3)), (a4, .inl (cI, 10, .inl f4)), (a5, .inl (cI, 10, .inl f5)), (a6, .inr (0, [.ref b6_0, .int x6_size])), (a7, .inr (1, [.ref a8, .ref a9, .ref a10, .ref a11, .ref a12, .ref a13, .ref a14, .int w205, .int w206, .int w207])), (a8, .inl (cI, 10, .inl w208)), (a9, .inl (cI, 10, .inl w209)), (a10, .inl (cI, 10, .inl w210)), (a11, .inl (cI, 10, .inl w211)), (a12, .inl (cI, 10, .inl w212)), (a13, .inl (cI, 10, .inl w213)), (a14, .inl (cI, 1024, .inl w23))]) (u11 fun w204 w205 w206 w207 w208 w209 w210 w211 w212 w213 s214 => [(0, .ref a0), (1, .int r1), (2, .int (l2_26 + r66)), (3, .int (l3_27 + s77)), (4, .int (l4_102 + s152)), (6, .int l6_30), (7, .int r55), (8, .int l8_104)]) (u11 fun w204 w205 w206 w207 w208 w209 w210 w211 w212 w213 s214 => [.int s214, .int s191]) 429 ?_ ?_
                                    · rintro ⟨w204, w205, w206, w207, w208, w209, w210, w211, w212, w213, s214⟩ h
                                      dsimp only [u11] at h ⊢
                                      refine g_icmp_ne (tgt := 436) X h dL_hunt_429 (by decide) (fun h => ?_) (fun h => ?_)
                                      · exact hK190 (w204, w205, w206, w207, w208, w209, w210, w211, w212, w213) h
                                      · refine g_iconst (v := 1) X dL_hunt_432 (by decide) ?_
                                        refine g_goto (tgt := 437) X dL_hunt_433 (by decide) ?_
                                        exact hK179 (w204, w205, w206, w207, w208, w209, w210, w211, w212, w213, 1) h
                                    · intro K215 hK215 h
                                      refine jn_g h (u10 fun w216 w217 w218 w219 w220 w221 w222 w223 w224 w225 => [(a0, .inr (4, [.ref a1, .ref b0_1, .ref a6, .ref a7, .ref b0_4, .ref b0_5, .ref b0_6, .int x0_length, .int w216])), (a1, .inr (2, [.ref a2, .ref a3, .ref a4, .ref a5, .int x1_size])), (a2, .inl (cI, 10, .inl f2)), (a3, .inl (cI, 10, .inl f3)), (a4, .inl (cI, 10, .inl f4)), (a5, .inl (cI, 10, .inl f5)), (a6, .inr (0, [.ref b6_0, .int x6_size])), (a7, .inr (1, [.ref a8, .ref a9, .ref a10, .ref a11, .ref a12, .ref a13, .ref a14, .int w217, .int w218, .int w219])), (a8, .inl (cI, 10, .inl w220)), (a9, .inl (cI, 10, .inl w221)), (a10, .inl (cI, 10, .inl w222)), (a11, .inl (cI, 10, .inl w223)), (a12, .inl (cI, 10, .inl w224)), (a13, .inl (cI, 10, .inl w225)), (a14, .inl (cI, 1024, .inl w23))]) (u10 fun w216 w217 w218 w219 w220 w221 w222 w223 w224 w225 => [(0, .ref a0), (1, .int r1), (2, .int (l2_26 + r66)), (3, .int (l3_27 + s77)), (4, .int (l4_102 + s152)), (6, .int l6_30), (7, .int r55), (8, .int l8_104)]) (u10 fun w216 w217 w218 w219 w220 w221 w222 w223 w224 w225 => [.int s191]) 424 ?_ ?_
                                      · rintro ⟨w216, w217, w218, w219, w220, w221, w222, w223, w224, w225⟩ h
                                        dsimp only [u10] at h ⊢
                                        refine g_iconst (v := 1) X dL_hunt_424 (by decide) ?_
                                        refine g_goto (tgt := 429) X dL_hunt_425 (by decide) ?_
                                        exact hK215 (w216, w217, w218, w219, w220, w221, w222, w223, w224, w225, 1) h
                                      · intro K226 hK226 h
                                        refine g_icmp_eq (tgt := 424) X h dL_hunt_403 (by decide) (fun h => ?_) (fun h => ?_)
                                        · exact hK226 (o194, o195, o196, o197, o198, o199, o200, o201, o202, o203) h
                                        · refine g_iload X (j := 6) dL_hunt_406 rfl ?_
                                          refine g_iconst (v := (-1)) X dL_hunt_408 (by decide) ?_
                                          refine g_icmp_eq (tgt := 424) X h dL_hunt_409 (by decide) (fun h => ?_) (fun h => ?_)
                                          · exact hK226 (o194, o195, o196, o197, o198, o199, o200, o201, o202, o203) h
                                          · refine g_aload_n X (j := 0) dL_hunt_412 rfl ?_
                                            refine g_iload X (j := 7) dL_hunt_413 rfl ?_
                                            refine g_iconst (v := 3) X dL_hunt_415 (by decide) ?_
                                            obtain ⟨r227, o228, o229, o230, o231, o232, o233, o234, o235, o236, o237, hc, h⟩ := bd11 h
                                            refine g_callV (q0 := 0) (ci := 4) (is := [0, 1, 2, 3, 4, 5, 7, 8, 9, 10, 11, 12, 13]) (As := [.int l8_104, .int 3]) (ws' := [(a0, .inr (4, [.ref a1, .ref b0_1, .ref a6, .ref a7, .ref b0_4, .ref b0_5, .ref b0_6, .int x0_length, .int o228])), (a1, .inr (2, [.ref a2, .ref a3, .ref a4, .ref a5, .int x1_size])), (a2, .inl (cI, 10, .inl f2)), (a3, .inl (cI, 10, .inl f3)), (a4, .inl (cI, 10, .inl f4)), (a5, .inl (cI, 10, .inl f5)), (a6, .inr (0, [.ref b6_0, .int x6_size])), (a7, .inr (1, [.ref a8, .ref a9, .ref a10, .ref a11, .ref a12, .ref a13, .ref a14, .int o229, .int o230, .int o231])), (a8, .inl (cI, 10, .inl o232)), (a9, .inl (cI, 10, .inl o233)), (a10, .inl (cI, 10, .inl o234)), (a11, .inl (cI, 10, .inl o235)), (a12, .inl (cI, 10, .inl o236)), (a13, .inl (cI, 10, .inl o237)), (a14, .inl (cI, 1024, .inl w23))]) (st := [.int s191]) X (c_X4_bookOf l D cI cS cL a0 a1 a2 a3 a4 a5 a7 a8 a9 a10 a11 a12 a13 b0_1 a6 b0_4 b0_5 b0_6 a14 l8_104 3 x0_length o194 x1_size f2 f3 f4 f5 o195 o196 o197 o198 o199 o200 o201 o202 o203 r227 o228 o229 o230 o231 o232 o233 o234 o235 o236 o237 hc) gL_hunt_X4_bookOf rfl ⟨rfl, rfl⟩ hd_X4_bookOf (by exact ⟨Nat.le_of_ble_eq_true rfl, Nat.le_of_ble_eq_true rfl⟩) ⟨Nat.zero_le _, Nat.zero_le _⟩ rfl rfl rfl rfl rfl rfl rfl (Nat.le_of_ble_eq_true rfl) rfl dL_hunt_416 ?_
                                            refine g_iload X (j := 6) dL_hunt_419 rfl ?_
                                            refine g_icmp_lt (tgt := 428) X h dL_hunt_421 (by decide) (fun h => ?_) (fun h => ?_)
                                            · refine g_iconst (v := 0) X dL_hunt_428 (by decide) ?_
                                              exact hK215 (o228, o229, o230, o231, o232, o233, o234, o235, o236, o237, 0) h
                                            · exact hK226 (o228, o229, o230, o231, o232, o233, o234, o235, o236, o237) h
                                  · intro K192 hK192 h
                                    refine g_icmp_ge (tgt := 394) X h dL_hunt_387 (by decide) (fun h => ?_) (fun h => ?_)
                                    · refine g_iconst (v := 0) X dL_hunt_394 (by decide) ?_
                                      refine g_lv (lv' := [(0, .ref a0), (1, .int r1), (2, .int (l2_26 + r66)), (3, .int (l3_27 + s77)), (4, .int (l4_102 + s152)), (6, .int l6_30), (7, .int r55), (8, .int l8_104)]) [0, 1, 2, 3, 4, 5, 6, 7] rfl ?_
                                      exact hK192 0 h
                                    · refine g_iconst (v := 1) X dL_hunt_390 (by decide) ?_
                                      refine g_goto (tgt := 395) X dL_hunt_391 (by decide) ?_
                                      refine g_lv (lv' := [(0, .ref a0), (1, .int r1), (2, .int (l2_26 + r66)), (3, .int (l3_27 + s77)), (4, .int (l4_102 + s152)), (6, .int l6_30), (7, .int r55), (8, .int l8_104)]) [0, 1, 2, 3, 4, 5, 6, 7] rfl ?_
                                      exact hK192 1 h
                          · intro K167 hK167 h
                            refine jn_g h (u10 fun w238 w239 w240 w241 w242 w243 w244 w245 w246 w247 => [(a0, .inr (4, [.ref a1, .ref b0_1, .ref a6, .ref a7, .ref b0_4, .ref b0_5, .ref b0_6, .int x0_length, .int w238])), (a1, .inr (2, [.ref a2, .ref a3, .ref a4, .ref a5, .int x1_size])), (a2, .inl (cI, 10, .inl f2)), (a3, .inl (cI, 10, .inl f3)), (a4, .inl (cI, 10, .inl f4)), (a5, .inl (cI, 10, .inl f5)), (a6, .inr (0, [.ref b6_0, .int x6_size])), (a7, .inr (1, [.ref a8, .ref a9, .ref a10, .ref a11, .ref a12, .ref a13, .ref a14, .int w239, .int w240, .int w241])), (a8, .inl (cI, 10, .inl w242)), (a9, .inl (cI, 10, .inl w243)), (a10, .inl (cI, 10, .inl w244)), (a11, .inl (cI, 10, .inl w245)), (a12, .inl (cI, 10, .inl w246)), (a13, .inl (cI, 10, .inl w247)), (a14, .inl (cI, 1024, .inl w23))]) (u10 fun w238 w239 w240 w241 w242 w243 w244 w245 w246 w247 => [(0, .ref a0), (1, .int r1), (2, .int (l2_26 + r66)), (3, .int (l3_27 + s77)), (4, .int (l4_102 + s152)), (6, .int l6_30), (7, .int r55), (8, .int l8_104), (10, .int r151)]) (u10 fun w238 w239 w240 w241 w242 w243 w244 w245 w246 w247 => [.int s154]) 380 ?_ ?_
                            · rintro ⟨w238, w239, w240, w241, w242, w243, w244, w245, w246, w247⟩ h
                              dsimp only [u10] at h ⊢
                              refine g_iconst (v := 0) X dL_hunt_380 (by decide) ?_
                              exact hK167 (w238, w239, w240, w241, w242, w243, w244, w245, w246, w247, 0) h
                            · intro K248 hK248 h
                              refine g_if_eq (tgt := 380) X h dL_hunt_353 (by decide) (fun h => ?_) (fun h => ?_)
                              · refine g_lv (lv' := [(0, .ref a0), (1, .int r1), (2, .int (l2_26 + r66)), (3, .int (l3_27 + s77)), (4, .int (l4_102 + s152)), (6, .int l6_30), (7, .int r55), (8, .int l8_104), (10, .int r151)]) [0, 1, 2, 3, 4, 5, 6, 7, 9] rfl ?_
                                exact hK248 (o139, o140, o141, o142, o143, o144, o145, o146, o147, o148) h
                              · refine g_aload_n X (j := 0) dL_hunt_356 rfl ?_
                                refine g_iload X (j := 5) dL_hunt_357 rfl ?_
                                refine g_iconst (v := 1) X dL_hunt_359 (by decide) ?_
                                obtain ⟨r249, o250, o251, o252, o253, o254, o255, o256, o257, o258, o259, hc, h⟩ := bd11 h
                                refine g_callV (q0 := 0) (ci := 4) (is := [0, 1, 2, 3, 4, 5, 7, 8, 9, 10, 11, 12, 13]) (As := [.int l6_30, .int 1]) (ws' := [(a0, .inr (4, [.ref a1, .ref b0_1, .ref a6, .ref a7, .ref b0_4, .ref b0_5, .ref b0_6, .int x0_length, .int o250])), (a1, .inr (2, [.ref a2, .ref a3, .ref a4, .ref a5, .int x1_size])), (a2, .inl (cI, 10, .inl f2)), (a3, .inl (cI, 10, .inl f3)), (a4, .inl (cI, 10, .inl f4)), (a5, .inl (cI, 10, .inl f5)), (a6, .inr (0, [.ref b6_0, .int x6_size])), (a7, .inr (1, [.ref a8, .ref a9, .ref a10, .ref a11, .ref a12, .ref a13, .ref a14, .int o251, .int o252, .int o253])), (a8, .inl (cI, 10, .inl o254)), (a9, .inl (cI, 10, .inl o255)), (a10, .inl (cI, 10, .inl o256)), (a11, .inl (cI, 10, .inl o257)), (a12, .inl (cI, 10, .inl o258)), (a13, .inl (cI, 10, .inl o259)), (a14, .inl (cI, 1024, .inl w23))]) (st := [.int s154]) X (c_X4_bookOf l D cI cS cL a0 a1 a2 a3 a4 a5 a7 a8 a9 a10 a11 a12 a13 b0_1 a6 b0_4 b0_5 b0_6 a14 l6_30 1 x0_length o139 x1_size f2 f3 f4 f5 o140 o141 o142 o143 o144 o145 o146 o147 o148 r249 o250 o251 o252 o253 o254 o255 o256 o257 o258 o259 hc) gL_hunt_X4_bookOf rfl ⟨rfl, rfl⟩ hd_X4_bookOf (by exact ⟨Nat.le_of_ble_eq_true rfl, Nat.le_of_ble_eq_true rfl⟩) ⟨Nat.zero_le _, Nat.zero_le _⟩ rfl rfl rfl rfl rfl rfl rfl (Nat.le_of_ble_eq_true rfl) rfl dL_hunt_360 ?_
                                refine g_aload_n X (j := 0) dL_hunt_363 rfl ?_
                                refine g_iload X (j := 7) dL_hunt_364 rfl ?_
                                refine g_iconst (v := 1) X dL_hunt_366 (by decide) ?_
                                obtain ⟨r260, o261, o262, o263, o264, o265, o266, o267, o268, o269, o270, hc, h⟩ := bd11 h
                                refine g_callV (q0 := 0) (ci := 4) (is := [0, 1, 2, 3, 4, 5, 7, 8, 9, 10, 11, 12, 13]) (As := [.int l8_104, .int 1]) (ws' := [(a0, .inr (4, [.ref a1, .ref b0_1, .ref a6, .ref a7, .ref b0_4, .ref b0_5, .ref b0_6, .int x0_length, .int o261])), (a1, .inr (2, [.ref a2, .ref a3, .ref a4, .ref a5, .int x1_size])), (a2, .inl (cI, 10, .inl f2)), (a3, .inl (cI, 10, .inl f3)), (a4, .inl (cI, 10, .inl f4)), (a5, .inl (cI, 10, .inl f5)), (a6, .inr (0, [.ref b6_0, .int x6_size])), (a7, .inr (1, [.ref a8, .ref a9, .ref a10, .ref a11, .ref a12, .ref a13, .ref a14, .int o262, .int o263, .int o264])), (a8, .inl (cI, 10, .inl o265)), (a9, .inl (cI, 10, .inl o266)), (a10, .inl (cI, 10, .inl o267)), (a11, .inl (cI, 10, .inl o268)), (a12, .inl (cI, 10, .inl o269)), (a13, .inl (cI, 10, .inl o270)), (a14, .inl (cI, 1024, .inl w23))]) (st := [.int r249, .int s154]) X (c_X4_bookOf l D cI cS cL a0 a1 a2 a3 a4 a5 a7 a8 a9 a10 a11 a12 a13 b0_1 a6 b0_4 b0_5 b0_6 a14 l8_104 1 x0_length o250 x1_size f2 f3 f4 f5 o251 o252 o253 o254 o255 o256 o257 o258 o259 r260 o261 o262 o263 o264 o265 o266 o267 o268 o269 o270 hc) gL_hunt_X4_bookOf rfl ⟨rfl, rfl⟩ hd_X4_bookOf (by exact ⟨Nat.le_of_ble_eq_true rfl, Nat.le_of_ble_eq_true rfl⟩) ⟨Nat.zero_le _, Nat.zero_le _⟩ rfl rfl rfl rfl rfl rfl rfl (Nat.le_of_ble_eq_true rfl) rfl dL_hunt_367 ?_
                                refine g_iconst (v := (-1)) X dL_hunt_370 (by decide) ?_
                                refine g_ixor X dL_hunt_371 ?_
                                refine g_iand X dL_hunt_372 ?_
                                refine g_if_eq (tgt := 380) X h dL_hunt_373 (by decide) (fun h => ?_) (fun h => ?_)
                                · refine g_lv (lv' := [(0, .ref a0), (1, .int r1), (2, .int (l2_26 + r66)), (3, .int (l3_27 + s77)), (4, .int (l4_102 + s152)), (6, .int l6_30), (7, .int r55), (8, .int l8_104), (10, .int r151)]) [0, 1, 2, 3, 4, 5, 6, 7, 9] rfl ?_
                                  exact hK248 (o261, o262, o263, o264, o265, o266, o267, o268, o269, o270) h
                                · refine g_iconst (v := 1) X dL_hunt_376 (by decide) ?_
                                  refine g_goto (tgt := 381) X dL_hunt_377 (by decide) ?_
                                  refine g_lv (lv' := [(0, .ref a0), (1, .int r1), (2, .int (l2_26 + r66)), (3, .int (l3_27 + s77)), (4, .int (l4_102 + s152)), (6, .int l6_30), (7, .int r55), (8, .int l8_104), (10, .int r151)]) [0, 1, 2, 3, 4, 5, 6, 7, 9] rfl ?_
                                  exact hK167 (o261, o262, o263, o264, o265, o266, o267, o268, o269, o270, 1) h
                        · intro K155 hK155 h
                          refine g_icmp_ne (tgt := 350) X h dL_hunt_343 (by decide) (fun h => ?_) (fun h => ?_)
                          · refine g_iconst (v := 0) X dL_hunt_350 (by decide) ?_
                            refine g_lv (lv' := [(0, .ref a0), (1, .int r1), (2, .int (l2_26 + r66)), (3, .int (l3_27 + s77)), (4, .int (l4_102 + s152)), (6, .int l6_30), (7, .int r55), (8, .int l8_104), (9, .int s149), (10, .int r151)]) [1, 2, 3, 4, 0, 5, 6, 7, 8, 9] rfl ?_
                            exact hK155 0 h
                          · refine g_iconst (v := 1) X dL_hunt_346 (by decide) ?_
                            refine g_goto (tgt := 351) X dL_hunt_347 (by decide) ?_
                            refine g_lv (lv' := [(0, .ref a0), (1, .int r1), (2, .int (l2_26 + r66)), (3, .int (l3_27 + s77)), (4, .int (l4_102 + s152)), (6, .int l6_30), (7, .int r55), (8, .int l8_104), (9, .int s149), (10, .int r151)]) [1, 2, 3, 4, 0, 5, 6, 7, 8, 9] rfl ?_
                            exact hK155 1 h
                      · intro K153 hK153 h
                        refine jn_g h (u0 ([(a0, .inr (4, [.ref a1, .ref b0_1, .ref a6, .ref a7, .ref b0_4, .ref b0_5, .ref b0_6, .int x0_length, .int o139])), (a1, .inr (2, [.ref a2, .ref a3, .ref a4, .ref a5, .int x1_size])), (a2, .inl (cI, 10, .inl f2)), (a3, .inl (cI, 10, .inl f3)), (a4, .inl (cI, 10, .inl f4)), (a5, .inl (cI, 10, .inl f5)), (a6, .inr (0, [.ref b6_0, .int x6_size])), (a7, .inr (1, [.ref a8, .ref a9, .ref a10, .ref a11, .ref a12, .ref a13, .ref a14, .int o140, .int o141, .int o142])), (a8, .inl (cI, 10, .inl o143)), (a9, .inl (cI, 10, .inl o144)), (a10, .inl (cI, 10, .inl o145)), (a11, .inl (cI, 10, .inl o146)), (a12, .inl (cI, 10, .inl o147)), (a13, .inl (cI, 10, .inl o148)), (a14, .inl (cI, 1024, .inl w23))])) (u0 ([(0, .ref a0), (1, .int r1), (2, .int (l2_26 + r66)), (3, .int (l3_27 + s77)), (6, .int l6_30), (7, .int r55), (8, .int l8_104), (9, .int s149), (10, .int r151)])) (u0 ([.int l4_102])) 334 ?_ ?_
                        · rintro ⟨⟩ h
                          dsimp only [u0] at h ⊢
                          refine g_iconst (v := 0) X dL_hunt_334 (by decide) ?_
                          exact hK153 0 h
                        · intro K271 hK271 h
                          refine g_if_le (tgt := 334) X h dL_hunt_316 (by decide) (fun h => ?_) (fun h => ?_)
                          · refine g_lv (lv' := [(0, .ref a0), (1, .int r1), (2, .int (l2_26 + r66)), (3, .int (l3_27 + s77)), (6, .int l6_30), (7, .int r55), (8, .int l8_104), (9, .int s149), (10, .int r151)]) [2, 3, 4, 5, 7, 8, 9, 1, 0] rfl ?_
                            exact hK271 () h
                          · refine g_aload_n X (j := 2) dL_hunt_319 rfl ?_
                            refine g_iload X (j := 7) dL_hunt_320 rfl ?_
                            refine g_iload X (j := 9) dL_hunt_322 rfl ?_
                            obtain ⟨r272, hc, h⟩ := bd1 h
                            refine g_callV (q0 := 0) (ci := 4) (is := [0, 1, 2, 3, 4, 5]) (As := [.int l6_30, .int l8_104]) (ws' := [(a0, .inr (4, [.ref a1, .ref b0_1, .ref a6, .ref a7, .ref b0_4, .ref b0_5, .ref b0_6, .int x0_length, .int o139])), (a1, .inr (2, [.ref a2, .ref a3, .ref a4, .ref a5, .int x1_size])), (a2, .inl (cI, 10, .inl f2)), (a3, .inl (cI, 10, .inl f3)), (a4, .inl (cI, 10, .inl f4)), (a5, .inl (cI, 10, .inl f5)), (a6, .inr (0, [.ref b6_0, .int x6_size])), (a7, .inr (1, [.ref a8, .ref a9, .ref a10, .ref a11, .ref a12, .ref a13, .ref a14, .int o140, .int o141, .int o142])), (a8, .inl (cI, 10, .inl o143)), (a9, .inl (cI, 10, .inl o144)), (a10, .inl (cI, 10, .inl o145)), (a11, .inl (cI, 10, .inl o146)), (a12, .inl (cI, 10, .inl o147)), (a13, .inl (cI, 10, .inl o148)), (a14, .inl (cI, 1024, .inl w23))]) (st := [.int l4_102]) X (c_X4_ahead l D cI cS cL a0 a1 a2 a3 a4 a5 b0_1 a6 a7 b0_4 b0_5 b0_6 l6_30 l8_104 x0_length o139 x1_size f2 f3 f4 f5 r272 hc) gL_hunt_X4_ahead rfl ⟨rfl, rfl⟩ hd_X4_ahead (by exact ⟨Nat.le_of_ble_eq_true rfl, Nat.le_of_ble_eq_true rfl⟩) ⟨Nat.zero_le _, Nat.zero_le _⟩ rfl rfl rfl rfl rfl rfl rfl (Nat.le_of_ble_eq_true rfl) rfl dL_hunt_324 ?_
                            refine g_if_le (tgt := 334) X h dL_hunt_327 (by decide) (fun h => ?_) (fun h => ?_)
                            · refine g_lv (lv' := [(0, .ref a0), (1, .int r1), (2, .int (l2_26 + r66)), (3, .int (l3_27 + s77)), (6, .int l6_30), (7, .int r55), (8, .int l8_104), (9, .int s149), (10, .int r151)]) [2, 3, 4, 5, 7, 8, 9, 1, 0] rfl ?_
                              exact hK271 () h
                            · refine g_iconst (v := 1) X dL_hunt_330 (by decide) ?_
                              refine g_goto (tgt := 335) X dL_hunt_331 (by decide) ?_
                              refine g_lv (lv' := [(0, .ref a0), (1, .int r1), (2, .int (l2_26 + r66)), (3, .int (l3_27 + s77)), (6, .int l6_30), (7, .int r55), (8, .int l8_104), (9, .int s149), (10, .int r151)]) [2, 3, 4, 5, 7, 8, 9, 1, 0] rfl ?_
                              exact hK153 1 h
                    · intro K150 hK150 h
                      refine g_icmp_ne (tgt := 299) X h dL_hunt_292 (by decide) (fun h => ?_) (fun h => ?_)
                      · refine g_iconst (v := 0) X dL_hunt_299 (by decide) ?_
                        refine g_lv (lv' := [(0, .ref a0), (1, .int r1), (2, .int (l2_26 + r66)), (3, .int (l3_27 + s77)), (4, .int l4_102), (6, .int l6_30), (7, .int r55), (8, .int l8_104)]) [0, 1, 2, 3, 4, 6, 7, 8] rfl ?_
                        exact hK150 0 h
                      · refine g_iconst (v := 1) X dL_hunt_295 (by decide) ?_
                        refine g_goto (tgt := 300) X dL_hunt_296 (by decide) ?_
                        refine g_lv (lv' := [(0, .ref a0), (1, .int r1), (2, .int (l2_26 + r66)), (3, .int (l3_27 + s77)), (4, .int l4_102), (6, .int l6_30), (7, .int r55), (8, .int l8_104)]) [0, 1, 2, 3, 4, 6, 7, 8] rfl ?_
                        exact hK150 1 h
            · intro K101 hK101 h
              refine jn_g h (u10 fun w273 w274 w275 w276 w277 w278 w279 w280 w281 w282 => [(a0, .inr (4, [.ref a1, .ref b0_1, .ref a6, .ref a7, .ref b0_4, .ref b0_5, .ref b0_6, .int x0_length, .int w273])), (a1, .inr (2, [.ref a2, .ref a3, .ref a4, .ref a5, .int x1_size])), (a2, .inl (cI, 10, .inl f2)), (a3, .inl (cI, 10, .inl f3)), (a4, .inl (cI, 10, .inl f4)), (a5, .inl (cI, 10, .inl f5)), (a6, .inr (0, [.ref b6_0, .int x6_size])), (a7, .inr (1, [.ref a8, .ref a9, .ref a10, .ref a11, .ref a12, .ref a13, .ref a14, .int w274, .int w275, .int w276])), (a8, .inl (cI, 10, .inl w277)), (a9, .inl (cI, 10, .inl w278)), (a10, .inl (cI, 10, .inl w279)), (a11, .inl (cI, 10, .inl w280)), (a12, .inl (cI, 10, .inl w281)), (a13, .inl (cI, 10, .inl w282)), (a14, .inl (cI, 1024, .inl w23))]) (u10 fun w273 w274 w275 w276 w277 w278 w279 w280 w281 w282 => [(0, .ref a0), (1, .int r1), (2, .int (l2_26 + r66)), (3, .int (l3_27 + s77)), (4, .int l4_28), (6, .int l6_30), (7, .int r55)]) (u10 fun w273 w274 w275 w276 w277 w278 w279 w280 w281 w282 => []) 260 ?_ ?_
              · rintro ⟨w273, w274, w275, w276, w277, w278, w279, w280, w281, w282⟩ h
                dsimp only [u10] at h ⊢
                refine g_iconst (v := 0) X dL_hunt_260 (by decide) ?_
                exact hK101 (w273, w274, w275, w276, w277, w278, w279, w280, w281, w282, 0) h
              · intro K283 hK283 h
                refine g_icmp_lt (tgt := 260) X h dL_hunt_107 (by decide) (fun h => ?_) (fun h => ?_)
                · refine g_lv (lv' := [(0, .ref a0), (1, .int r1), (2, .int (l2_26 + r66)), (3, .int (l3_27 + s77)), (4, .int l4_28), (6, .int l6_30), (7, .int r55)]) [1, 2, 3, 0, 4, 5, 6] rfl ?_
                  exact hK283 (o80, o81, o82, o83, o84, o85, o86, o87, o88, o89) h
                · refine g_aload_n X (j := 1) dL_hunt_110 rfl ?_
                  refine g_iload X (j := 5) dL_hunt_111 rfl ?_
                  refine g_bipush (v := 6) X dL_hunt_113 (by decide) ?_
                  obtain ⟨r284, o285, o286, o287, o288, o289, o290, o291, o292, o293, o294, hc, h⟩ := bd11 h
                  refine g_callV (q0 := 0) (ci := 4) (is := [0, 1, 2, 3, 4, 5, 7, 8, 9, 10, 11, 12, 13]) (As := [.int l6_30, .int 6]) (ws' := [(a0, .inr (4, [.ref a1, .ref b0_1, .ref a6, .ref a7, .ref b0_4, .ref b0_5, .ref b0_6, .int x0_length, .int o285])), (a1, .inr (2, [.ref a2, .ref a3, .ref a4, .ref a5, .int x1_size])), (a2, .inl (cI, 10, .inl f2)), (a3, .inl (cI, 10, .inl f3)), (a4, .inl (cI, 10, .inl f4)), (a5, .inl (cI, 10, .inl f5)), (a6, .inr (0, [.ref b6_0, .int x6_size])), (a7, .inr (1, [.ref a8, .ref a9, .ref a10, .ref a11, .ref a12, .ref a13, .ref a14, .int o286, .int o287, .int o288])), (a8, .inl (cI, 10, .inl o289)), (a9, .inl (cI, 10, .inl o290)), (a10, .inl (cI, 10, .inl o291)), (a11, .inl (cI, 10, .inl o292)), (a12, .inl (cI, 10, .inl o293)), (a13, .inl (cI, 10, .inl o294)), (a14, .inl (cI, 1024, .inl w23))]) (st := []) X (c_X4_bookOf l D cI cS cL a0 a1 a2 a3 a4 a5 a7 a8 a9 a10 a11 a12 a13 b0_1 a6 b0_4 b0_5 b0_6 a14 l6_30 6 x0_length o80 x1_size f2 f3 f4 f5 o81 o82 o83 o84 o85 o86 o87 o88 o89 r284 o285 o286 o287 o288 o289 o290 o291 o292 o293 o294 hc) gL_hunt_X4_bookOf rfl ⟨rfl, rfl⟩ hd_X4_bookOf (by exact ⟨Nat.le_of_ble_eq_true rfl, Nat.le_of_ble_eq_true rfl⟩) ⟨Nat.zero_le _, Nat.zero_le _⟩ rfl rfl rfl rfl rfl rfl rfl (Nat.le_of_ble_eq_true rfl) rfl dL_hunt_115 ?_
                  refine g_sipush (v := 1999) X dL_hunt_118 (by decide) ?_
                  refine g_icmp_gt (tgt := 260) X h dL_hunt_121 (by decide) (fun h => ?_) (fun h => ?_)
                  · refine g_lv (lv' := [(0, .ref a0), (1, .int r1), (2, .int (l2_26 + r66)), (3, .int (l3_27 + s77)), (4, .int l4_28), (6, .int l6_30), (7, .int r55)]) [1, 2, 3, 0, 4, 5, 6] rfl ?_
                    exact hK283 (o285, o286, o287, o288, o289, o290, o291, o292, o293, o294) h
                  · refine g_iload X (j := 6) dL_hunt_124 rfl ?_
                    refine g_iconst (v := (-1)) X dL_hunt_126 (by decide) ?_
                    refine jn_g h (u10 fun w295 w296 w297 w298 w299 w300 w301 w302 w303 w304 => [(a0, .inr (4, [.ref a1, .ref b0_1, .ref a6, .ref a7, .ref b0_4, .ref b0_5, .ref b0_6, .int x0_length, .int w295])), (a1, .inr (2, [.ref a2, .ref a3, .ref a4, .ref a5, .int x1_size])), (a2, .inl (cI, 10, .inl f2)), (a3, .inl (cI, 10, .inl f3)), (a4, .inl (cI, 10, .inl f4)), (a5, .inl (cI, 10, .inl f5)), (a6, .inr (0, [.ref b6_0, .int x6_size])), (a7, .inr (1, [.ref a8, .ref a9, .ref a10, .ref a11, .ref a12, .ref a13, .ref a14, .int w296, .int w297, .int w298])), (a8, .inl (cI, 10, .inl w299)), (a9, .inl (cI, 10, .inl w300)), (a10, .inl (cI, 10, .inl w301)), (a11, .inl (cI, 10, .inl w302)), (a12, .inl (cI, 10, .inl w303)), (a13, .inl (cI, 10, .inl w304)), (a14, .inl (cI, 1024, .inl w23))]) (u10 fun w295 w296 w297 w298 w299 w300 w301 w302 w303 w304 => [(0, .ref a0), (1, .int r1), (2, .int (l2_26 + r66)), (3, .int (l3_27 + s77)), (4, .int l4_28), (6, .int l6_30), (7, .int r55)]) (u10 fun w295 w296 w297 w298 w299 w300 w301 w302 w303 w304 => []) 155 ?_ ?_
                    · rintro ⟨w295, w296, w297, w298, w299, w300, w301, w302, w303, w304⟩ h
                      dsimp only [u10] at h ⊢
                      refine g_aload_n X (j := 0) dL_hunt_155 rfl ?_
                      refine g_iload X (j := 5) dL_hunt_156 rfl ?_
                      refine g_bipush (v := 7) X dL_hunt_158 (by decide) ?_
                      obtain ⟨r306, o307, o308, o309, o310, o311, o312, o313, o314, o315, o316, hc, h⟩ := bd11 h
                      refine g_callV (q0 := 0) (ci := 4) (is := [0, 1, 2, 3, 4, 5, 7, 8, 9, 10, 11, 12, 13]) (As := [.int l6_30, .int 7]) (ws' := [(a0, .inr (4, [.ref a1, .ref b0_1, .ref a6, .ref a7, .ref b0_4, .ref b0_5, .ref b0_6, .int x0_length, .int o307])), (a1, .inr (2, [.ref a2, .ref a3, .ref a4, .ref a5, .int x1_size])), (a2, .inl (cI, 10, .inl f2)), (a3, .inl (cI, 10, .inl f3)), (a4, .inl (cI, 10, .inl f4)), (a5, .inl (cI, 10, .inl f5)), (a6, .inr (0, [.ref b6_0, .int x6_size])), (a7, .inr (1, [.ref a8, .ref a9, .ref a10, .ref a11, .ref a12, .ref a13, .ref a14, .int o308, .int o309, .int o310])), (a8, .inl (cI, 10, .inl o311)), (a9, .inl (cI, 10, .inl o312)), (a10, .inl (cI, 10, .inl o313)), (a11, .inl (cI, 10, .inl o314)), (a12, .inl (cI, 10, .inl o315)), (a13, .inl (cI, 10, .inl o316)), (a14, .inl (cI, 1024, .inl w23))]) (st := []) X (c_X4_bookOf l D cI cS cL a0 a1 a2 a3 a4 a5 a7 a8 a9 a10 a11 a12 a13 b0_1 a6 b0_4 b0_5 b0_6 a14 l6_30 7 x0_length w295 x1_size f2 f3 f4 f5 w296 w297 w298 w299 w300 w301 w302 w303 w304 r306 o307 o308 o309 o310 o311 o312 o313 o314 o315 o316 hc) gL_hunt_X4_bookOf rfl ⟨rfl, rfl⟩ hd_X4_bookOf (by exact ⟨Nat.le_of_ble_eq_true rfl, Nat.le_of_ble_eq_true rfl⟩) ⟨Nat.zero_le _, Nat.zero_le _⟩ rfl rfl rfl rfl rfl rfl rfl (Nat.le_of_ble_eq_true rfl) rfl dL_hunt_160 ?_
                      refine g_iconst (v := 1) X dL_hunt_163 (by decide) ?_
                      refine jn_g h (u1 fun s317 => [(a0, .inr (4, [.ref a1, .ref b0_1, .ref a6, .ref a7, .ref b0_4, .ref b0_5, .ref b0_6, .int x0_length, .int o307])), (a1, .inr (2, [.ref a2, .ref a3, .ref a4, .ref a5, .int x1_size])), (a2, .inl (cI, 10, .inl f2)), (a3, .inl (cI, 10, .inl f3)), (a4, .inl (cI, 10, .inl f4)), (a5, .inl (cI, 10, .inl f5)), (a6, .inr (0, [.ref b6_0, .int x6_size])), (a7, .inr (1, [.ref a8, .ref a9, .ref a10, .ref a11, .ref a12, .ref a13, .ref a14, .int o308, .int o309, .int o310])), (a8, .inl (cI, 10, .inl o311)), (a9, .inl (cI, 10, .inl o312)), (a10, .inl (cI, 10, .inl o313)), (a11, .inl (cI, 10, .inl o314)), (a12, .inl (cI, 10, .inl o315)), (a13, .inl (cI, 10, .inl o316)), (a14, .inl (cI, 1024, .inl w23))]) (u1 fun s317 => [(0, .ref a0), (1, .int r1), (2, .int (l2_26 + r66)), (3, .int (l3_27 + s77)), (4, .int l4_28), (6, .int l6_30), (7, .int r55)]) (u1 fun s317 => [.int s317]) 172 ?_ ?_
                      · rintro s317 h
                        dsimp only [u1] at h ⊢
                        refine g_aload_n X (j := 0) dL_hunt_172 rfl ?_
                        refine g_iload X (j := 5) dL_hunt_173 rfl ?_
                        refine g_iconst (v := 5) X dL_hunt_175 (by decide) ?_
                        obtain ⟨r319, o320, o321, o322, o323, o324, o325, o326, o327, o328, o329, hc, h⟩ := bd11 h
                        refine g_callV (q0 := 0) (ci := 4) (is := [0, 1, 2, 3, 4, 5, 7, 8, 9, 10, 11, 12, 13]) (As := [.int l6_30, .int 5]) (ws' := [(a0, .inr (4, [.ref a1, .ref b0_1, .ref a6, .ref a7, .ref b0_4, .ref b0_5, .ref b0_6, .int x0_length, .int o320])), (a1, .inr (2, [.ref a2, .ref a3, .ref a4, .ref a5, .int x1_size])), (a2, .inl (cI, 10, .inl f2)), (a3, .inl (cI, 10, .inl f3)), (a4, .inl (cI, 10, .inl f4)), (a5, .inl (cI, 10, .inl f5)), (a6, .inr (0, [.ref b6_0, .int x6_size])), (a7, .inr (1, [.ref a8, .ref a9, .ref a10, .ref a11, .ref a12, .ref a13, .ref a14, .int o321, .int o322, .int o323])), (a8, .inl (cI, 10, .inl o324)), (a9, .inl (cI, 10, .inl o325)), (a10, .inl (cI, 10, .inl o326)), (a11, .inl (cI, 10, .inl o327)), (a12, .inl (cI, 10, .inl o328)), (a13, .inl (cI, 10, .inl o329)), (a14, .inl (cI, 1024, .inl w23))]) (st := [.int s317]) X (c_X4_bookOf l D cI cS cL a0 a1 a2 a3 a4 a5 a7 a8 a9 a10 a11 a12 a13 b0_1 a6 b0_4 b0_5 b0_6 a14 l6_30 5 x0_length o307 x1_size f2 f3 f4 f5 o308 o309 o310 o311 o312 o313 o314 o315 o316 r319 o320 o321 o322 o323 o324 o325 o326 o327 o328 o329 hc) gL_hunt_X4_bookOf rfl ⟨rfl, rfl⟩ hd_X4_bookOf (by exact ⟨Nat.le_of_ble_eq_true rfl, Nat.le_of_ble_eq_true rfl⟩) ⟨Nat.zero_le _, Nat.zero_le _⟩ rfl rfl rfl rfl rfl rfl rfl (Nat.le_of_ble_eq_true rfl) rfl dL_hunt_176 ?_
                        refine g_aload_n X (j := 0) dL_hunt_179 rfl ?_
                        refine g_iload X (j := 5) dL_hunt_180 rfl ?_
                        refine g_bipush (v := 6) X dL_hunt_182 (by decide) ?_
                        obtain ⟨r330, o331, o332, o333, o334, o335, o336, o337, o338, o339, o340, hc, h⟩ := bd11 h
                        refine g_callV (q0 := 0) (ci := 4) (is := [0, 1, 2, 3, 4, 5, 7, 8, 9, 10, 11, 12, 13]) (As := [.int l6_30, .int 6]) (ws' := [(a0, .inr (4, [.ref a1, .ref b0_1, .ref a6, .ref a7, .ref b0_4, .ref b0_5, .ref b0_6, .int x0_length, .int o331])), (a1, .inr (2, [.ref a2, .ref a3, .ref a4, .ref a5, .int x1_size])), (a2, .inl (cI, 10, .inl f2)), (a3, .inl (cI, 10, .inl f3)), (a4, .inl (cI, 10, .inl f4)), (a5, .inl (cI, 10, .inl f5)), (a6, .inr (0, [.ref b6_0, .int x6_size])), (a7, .inr (1, [.ref a8, .ref a9, .ref a10, .ref a11, .ref a12, .ref a13, .ref a14, .int o332, .int o333, .int o334])), (a8, .inl (cI, 10, .inl o335)), (a9, .inl (cI, 10, .inl o336)), (a10, .inl (cI, 10, .inl o337)), (a11, .inl (cI, 10, .inl o338)), (a12, .inl (cI, 10, .inl o339)), (a13, .inl (cI, 10, .inl o340)), (a14, .inl (cI, 1024, .inl w23))]) (st := [.int r319, .int s317]) X (c_X4_bookOf l D cI cS cL a0 a1 a2 a3 a4 a5 a7 a8 a9 a10 a11 a12 a13 b0_1 a6 b0_4 b0_5 b0_6 a14 l6_30 6 x0_length o320 x1_size f2 f3 f4 f5 o321 o322 o323 o324 o325 o326 o327 o328 o329 r330 o331 o332 o333 o334 o335 o336 o337 o338 o339 o340 hc) gL_hunt_X4_bookOf rfl ⟨rfl, rfl⟩ hd_X4_bookOf (by exact ⟨Nat.le_of_ble_eq_true rfl, Nat.le_of_ble_eq_true rfl⟩) ⟨Nat.zero_le _, Nat.zero_le _⟩ rfl rfl rfl rfl rfl rfl rfl (Nat.le_of_ble_eq_true rfl) rfl dL_hunt_184 ?_
                        refine jn_g h (u1 fun s341 => [(a0, .inr (4, [.ref a1, .ref b0_1, .ref a6, .ref a7, .ref b0_4, .ref b0_5, .ref b0_6, .int x0_length, .int o331])), (a1, .inr (2, [.ref a2, .ref a3, .ref a4, .ref a5, .int x1_size])), (a2, .inl (cI, 10, .inl f2)), (a3, .inl (cI, 10, .inl f3)), (a4, .inl (cI, 10, .inl f4)), (a5, .inl (cI, 10, .inl f5)), (a6, .inr (0, [.ref b6_0, .int x6_size])), (a7, .inr (1, [.ref a8, .ref a9, .ref a10, .ref a11, .ref a12, .ref a13, .ref a14, .int o332, .int o333, .int o334])), (a8, .inl (cI, 10, .inl o335)), (a9, .inl (cI, 10, .inl o336)), (a10, .inl (cI, 10, .inl o337)), (a11, .inl (cI, 10, .inl o338)), (a12, .inl (cI, 10, .inl o339)), (a13, .inl (cI, 10, .inl o340)), (a14, .inl (cI, 1024, .inl w23))]) (u1 fun s341 => [(0, .ref a0), (1, .int r1), (2, .int (l2_26 + r66)), (3, .int (l3_27 + s77)), (4, .int l4_28), (6, .int l6_30), (7, .int r55)]) (u1 fun s341 => [.int s341, .int s317]) 195 ?_ ?_
                        · rintro s341 h
                          dsimp only [u1] at h ⊢
                          refine g_icmp_ne (tgt := 260) X h dL_hunt_195 (by decide) (fun h => ?_) (fun h => ?_)
                          · exact hK283 (o331, o332, o333, o334, o335, o336, o337, o338, o339, o340) h
                          · refine g_aload_n X (j := 0) dL_hunt_198 rfl ?_
                            refine g_iload X (j := 5) dL_hunt_199 rfl ?_
                            refine g_iconst (v := 4) X dL_hunt_201 (by decide) ?_
                            obtain ⟨r343, o344, o345, o346, o347, o348, o349, o350, o351, o352, o353, hc, h⟩ := bd11 h
                            refine g_callV (q0 := 0) (ci := 4) (is := [0, 1, 2, 3, 4, 5, 7, 8, 9, 10, 11, 12, 13]) (As := [.int l6_30, .int 4]) (ws' := [(a0, .inr (4, [.ref a1, .ref b0_1, .ref a6, .ref a7, .ref b0_4, .ref b0_5, .ref b0_6, .int x0_length, .int o344])), (a1, .inr (2, [.ref a2, .ref a3, .ref a4, .ref a5, .int x1_size])), (a2, .inl (cI, 10, .inl f2)), (a3, .inl (cI, 10, .inl f3)), (a4, .inl (cI, 10, .inl f4)), (a5, .inl (cI, 10, .inl f5)), (a6, .inr (0, [.ref b6_0, .int x6_size])), (a7, .inr (1, [.ref a8, .ref a9, .ref a10, .ref a11, .ref a12, .ref a13, .ref a14, .int o345, .int o346, .int o347])), (a8, .inl (cI, 10, .inl o348)), (a9, .inl (cI, 10, .inl o349)), (a10, .inl (cI, 10, .inl o350)), (a11, .inl (cI, 10, .inl o351)), (a12, .inl (cI, 10, .inl o352)), (a13, .inl (cI, 10, .inl o353)), (a14, .inl (cI, 1024, .inl w23))]) (st := []) X (c_X4_bookOf l D cI cS cL a0 a1 a2 a3 a4 a5 a7 a8 a9 a10 a11 a12 a13 b0_1 a6 b0_4 b0_5 b0_6 a14 l6_30 4 x0_length o331 x1_size f2 f3 f4 f5 o332 o333 o334 o335 o336 o337 o338 o339 o340 r343 o344 o345 o346 o347 o348 o349 o350 o351 o352 o353 hc) gL_hunt_X4_bookOf rfl ⟨rfl, rfl⟩ hd_X4_bookOf (by exact ⟨Nat.le_of_ble_eq_true rfl, Nat.le_of_ble_eq_true rfl⟩) ⟨Nat.zero_le _, Nat.zero_le _⟩ rfl rfl rfl rfl rfl rfl rfl (Nat.le_of_ble_eq_true rfl) rfl dL_hunt_202 ?_
                            refine g_aload_n X (j := 0) dL_hunt_205 rfl ?_
                            refine g_iload X (j := 5) dL_hunt_206 rfl ?_
                            refine g_iconst (v := 1) X dL_hunt_208 (by decide) ?_
                            obtain ⟨r354, o355, o356, o357, o358, o359, o360, o361, o362, o363, o364, hc, h⟩ := bd11 h
                            refine g_callV (q0 := 0) (ci := 4) (is := [0, 1, 2, 3, 4, 5, 7, 8, 9, 10, 11, 12, 13]) (As := [.int l6_30, .int 1]) (ws' := [(a0, .inr (4, [.ref a1, .ref b0_1, .ref a6, .ref a7, .ref b0_4, .ref b0_5, .ref b0_6, .int x0_length, .int o355])), (a1, .inr (2, [.ref a2, .ref a3, .ref a4, .ref a5, .int x1_size])), (a2, .inl (cI, 10, .inl f2)), (a3, .inl (cI, 10, .inl f3)), (a4, .inl (cI, 10, .inl f4)), (a5, .inl (cI, 10, .inl f5)), (a6, .inr (0, [.ref b6_0, .int x6_size])), (a7, .inr (1, [.ref a8, .ref a9, .ref a10, .ref a11, .ref a12, .ref a13, .ref a14, .int o356, .int o357, .int o358])), (a8, .inl (cI, 10, .inl o359)), (a9, .inl (cI, 10, .inl o360)), (a10, .inl (cI, 10, .inl o361)), (a11, .inl (cI, 10, .inl o362)), (a12, .inl (cI, 10, .inl o363)), (a13, .inl (cI, 10, .inl o364)), (a14, .inl (cI, 1024, .inl w23))]) (st := [.int r343]) X (c_X4_bookOf l D cI cS cL a0 a1 a2 a3 a4 a5 a7 a8 a9 a10 a11 a12 a13 b0_1 a6 b0_4 b0_5 b0_6 a14 l6_30 1 x0_length o344 x1_size f2 f3 f4 f5 o345 o346 o347 o348 o349 o350 o351 o352 o353 r354 o355 o356 o357 o358 o359 o360 o361 o362 o363 o364 hc) gL_hunt_X4_bookOf rfl ⟨rfl, rfl⟩ hd_X4_bookOf (by exact ⟨Nat.le_of_ble_eq_true rfl, Nat.le_of_ble_eq_true rfl⟩) ⟨Nat.zero_le _, Nat.zero_le _⟩ rfl rfl rfl rfl rfl rfl rfl (Nat.le_of_ble_eq_true rfl) rfl dL_hunt_209 ?_
                            obtain ⟨r365, hc, h⟩ := bd1 h
                            refine g_callS0 (As := [.int r354]) (st := [.int r343]) X (c_L_ones l D cI cS cL r354 r365 hc) gL_hunt_L_ones rfl ⟨rfl, rfl⟩ hd_L_ones.2 ⟨Nat.le_of_ble_eq_true rfl, Nat.le_of_ble_eq_true rfl⟩ ⟨Nat.zero_le _, Nat.zero_le _⟩ rfl (Nat.le_of_ble_eq_true rfl) rfl dL_hunt_212 ?_
                            refine g_icmp_ne (tgt := 260) X h dL_hunt_215 (by decide) (fun h => ?_) (fun h => ?_)
                            · exact hK283 (o355, o356, o357, o358, o359, o360, o361, o362, o363, o364) h
                            · refine g_aload_n X (j := 0) dL_hunt_218 rfl ?_
                              refine g_iload X (j := 5) dL_hunt_219 rfl ?_
                              refine g_bipush (v := 10) X dL_hunt_221 (by decide) ?_
                              obtain ⟨r366, o367, o368, o369, o370, o371, o372, o373, o374, o375, o376, hc, h⟩ := bd11 h
                              refine g_callV (q0 := 0) (ci := 4) (is := [0, 1, 2, 3, 4, 5, 7, 8, 9, 10, 11, 12, 13]) (As := [.int l6_30, .int 10]) (ws' := [(a0, .inr (4, [.ref a1, .ref b0_1, .ref a6, .ref a7, .ref b0_4, .ref b0_5, .ref b0_6, .int x0_length, .int o367])), (a1, .inr (2, [.ref a2, .ref a3, .ref a4, .ref a5, .int x1_size])), (a2, .inl (cI, 10, .inl f2)), (a3, .inl (cI, 10, .inl f3)), (a4, .inl (cI, 10, .inl f4)), (a5, .inl (cI, 10, .inl f5)), (a6, .inr (0, [.ref b6_0, .int x6_size])), (a7, .inr (1, [.ref a8, .ref a9, .ref a10, .ref a11, .ref a12, .ref a13, .ref a14, .int o368, .int o369, .int o370])), (a8, .inl (cI, 10, .inl o371)), (a9, .inl (cI, 10, .inl o372)), (a10, .inl (cI, 10, .inl o373)), (a11, .inl (cI, 10, .inl o374)), (a12, .inl (cI, 10, .inl o375)), (a13, .inl (cI, 10, .inl o376)), (a14, .inl (cI, 1024, .inl w23))]) (st := []) X (c_X4_bookOf l D cI cS cL a0 a1 a2 a3 a4 a5 a7 a8 a9 a10 a11 a12 a13 b0_1 a6 b0_4 b0_5 b0_6 a14 l6_30 10 x0_length o355 x1_size f2 f3 f4 f5 o356 o357 o358 o359 o360 o361 o362 o363 o364 r366 o367 o368 o369 o370 o371 o372 o373 o374 o375 o376 hc) gL_hunt_X4_bookOf rfl ⟨rfl, rfl⟩ hd_X4_bookOf (by exact ⟨Nat.le_of_ble_eq_true rfl, Nat.le_of_ble_eq_true rfl⟩) ⟨Nat.zero_le _, Nat.zero_le _⟩ rfl rfl rfl rfl rfl rfl rfl (Nat.le_of_ble_eq_true rfl) rfl dL_hunt_223 ?_
                              refine g_aload_n X (j := 0) dL_hunt_226 rfl ?_
                              refine g_iload X (j := 5) dL_hunt_227 rfl ?_
                              refine g_bipush (v := 8) X dL_hunt_229 (by decide) ?_
                              obtain ⟨r377, o378, o379, o380, o381, o382, o383, o384, o385, o386, o387, hc, h⟩ := bd11 h
                              refine g_callV (q0 := 0) (ci := 4) (is := [0, 1, 2, 3, 4, 5, 7, 8, 9, 10, 11, 12, 13]) (As := [.int l6_30, .int 8]) (ws' := [(a0, .inr (4, [.ref a1, .ref b0_1, .ref a6, .ref a7, .ref b0_4, .ref b0_5, .ref b0_6, .int x0_length, .int o378])), (a1, .inr (2, [.ref a2, .ref a3, .ref a4, .ref a5, .int x1_size])), (a2, .inl (cI, 10, .inl f2)), (a3, .inl (cI, 10, .inl f3)), (a4, .inl (cI, 10, .inl f4)), (a5, .inl (cI, 10, .inl f5)), (a6, .inr (0, [.ref b6_0, .int x6_size])), (a7, .inr (1, [.ref a8, .ref a9, .ref a10, .ref a11, .ref a12, .ref a13, .ref a14, .int o379, .int o380, .int o381])), (a8, .inl (cI, 10, .inl o382)), (a9, .inl (cI, 10, .inl o383)), (a10, .inl (cI, 10, .inl o384)), (a11, .inl (cI, 10, .inl o385)), (a12, .inl (cI, 10, .inl o386)), (a13, .inl (cI, 10, .inl o387)), (a14, .inl (cI, 1024, .inl w23))]) (st := [.int r366]) X (c_X4_bookOf l D cI cS cL a0 a1 a2 a3 a4 a5 a7 a8 a9 a10 a11 a12 a13 b0_1 a6 b0_4 b0_5 b0_6 a14 l6_30 8 x0_length o367 x1_size f2 f3 f4 f5 o368 o369 o370 o371 o372 o373 o374 o375 o376 r377 o378 o379 o380 o381 o382 o383 o384 o385 o386 o387 hc) gL_hunt_X4_bookOf rfl ⟨rfl, rfl⟩ hd_X4_bookOf (by exact ⟨Nat.le_of_ble_eq_true rfl, Nat.le_of_ble_eq_true rfl⟩) ⟨Nat.zero_le _, Nat.zero_le _⟩ rfl rfl rfl rfl rfl rfl rfl (Nat.le_of_ble_eq_true rfl) rfl dL_hunt_231 ?_
                              refine g_icmp_gt (tgt := 260) X h dL_hunt_234 (by decide) (fun h => ?_) (fun h => ?_)
                              · exact hK283 (o378, o379, o380, o381, o382, o383, o384, o385, o386, o387) h
                              · refine g_aload_n X (j := 0) dL_hunt_237 rfl ?_
                                refine g_iload X (j := 5) dL_hunt_238 rfl ?_
                                refine g_bipush (v := 10) X dL_hunt_240 (by decide) ?_
                                obtain ⟨r388, o389, o390, o391, o392, o393, o394, o395, o396, o397, o398, hc, h⟩ := bd11 h
                                refine g_callV (q0 := 0) (ci := 4) (is := [0, 1, 2, 3, 4, 5, 7, 8, 9, 10, 11, 12, 13]) (As := [.int l6_30, .int 10]) (ws' := [(a0, .inr (4, [.ref a1, .ref b0_1, .ref a6, .ref a7, .ref b0_4, .ref b0_5, .ref b0_6, .int x0_length, .int o389])), (a1, .inr (2, [.ref a2, .ref a3, .ref a4, .ref a5, .int x1_size])), (a2, .inl (cI, 10, .inl f2)), (a3, .inl (cI, 10, .inl f3)), (a4, .inl (cI, 10, .inl f4)), (a5, .inl (cI, 10, .inl f5)), (a6, .inr (0, [.ref b6_0, .int x6_size])), (a7, .inr (1, [.ref a8, .ref a9, .ref a10, .ref a11, .ref a12, .ref a13, .ref a14, .int o390, .int o391, .int o392])), (a8, .inl (cI, 10, .inl o393)), (a9, .inl (cI, 10, .inl o394)), (a10, .inl (cI, 10, .inl o395)), (a11, .inl (cI, 10, .inl o396)), (a12, .inl (cI, 10, .inl o397)), (a13, .inl (cI, 10, .inl o398)), (a14, .inl (cI, 1024, .inl w23))]) (st := []) X (c_X4_bookOf l D cI cS cL a0 a1 a2 a3 a4 a5 a7 a8 a9 a10 a11 a12 a13 b0_1 a6 b0_4 b0_5 b0_6 a14 l6_30 10 x0_length o378 x1_size f2 f3 f4 f5 o379 o380 o381 o382 o383 o384 o385 o386 o387 r388 o389 o390 o391 o392 o393 o394 o395 o396 o397 o398 hc) gL_hunt_X4_bookOf rfl ⟨rfl, rfl⟩ hd_X4_bookOf (by exact ⟨Nat.le_of_ble_eq_true rfl, Nat.le_of_ble_eq_true rfl⟩) ⟨Nat.zero_le _, Nat.zero_le _⟩ rfl rfl rfl rfl rfl rfl rfl (Nat.le_of_ble_eq_true rfl) rfl dL_hunt_242 ?_
                                refine g_aload_n X (j := 0) dL_hunt_245 rfl ?_
                                refine g_iload X (j := 5) dL_hunt_246 rfl ?_
                                refine g_bipush (v := 9) X dL_hunt_248 (by decide) ?_
                                obtain ⟨r399, o400, o401, o402, o403, o404, o405, o406, o407, o408, o409, hc, h⟩ := bd11 h
                                refine g_callV (q0 := 0) (ci := 4) (is := [0, 1, 2, 3, 4, 5, 7, 8, 9, 10, 11, 12, 13]) (As := [.int l6_30, .int 9]) (ws' := [(a0, .inr (4, [.ref a1, .ref b0_1, .ref a6, .ref a7, .ref b0_4, .ref b0_5, .ref b0_6, .int x0_length, .int o400])), (a1, .inr (2, [.ref a2, .ref a3, .ref a4, .ref a5, .int x1_size])), (a2, .inl (cI, 10, .inl f2)), (a3, .inl (cI, 10, .inl f3)), (a4, .inl (cI, 10, .inl f4)), (a5, .inl (cI, 10, .inl f5)), (a6, .inr (0, [.ref b6_0, .int x6_size])), (a7, .inr (1, [.ref a8, .ref a9, .ref a10, .ref a11, .ref a12, .ref a13, .ref a14, .int o401, .int o402, .int o403])), (a8, .inl (cI, 10, .inl o404)), (a9, .inl (cI, 10, .inl o405)), (a10, .inl (cI, 10, .inl o406)), (a11, .inl (cI, 10, .inl o407)), (a12, .inl (cI, 10, .inl o408)), (a13, .inl (cI, 10, .inl o409)), (a14, .inl (cI, 1024, .inl w23))]) (st := [.int r388]) X (c_X4_bookOf l D cI cS cL a0 a1 a2 a3 a4 a5 a7 a8 a9 a10 a11 a12 a13 b0_1 a6 b0_4 b0_5 b0_6 a14 l6_30 9 x0_length o389 x1_size f2 f3 f4 f5 o390 o391 o392 o393 o394 o395 o396 o397 o398 r399 o400 o401 o402 o403 o404 o405 o406 o407 o408 o409 hc) gL_hunt_X4_bookOf rfl ⟨rfl, rfl⟩ hd_X4_bookOf (by exact ⟨Nat.le_of_ble_eq_true rfl, Nat.le_of_ble_eq_true rfl⟩) ⟨Nat.zero_le _, Nat.zero_le _⟩ rfl rfl rfl rfl rfl rfl rfl (Nat.le_of_ble_eq_true rfl) rfl dL_hunt_250 ?_
                                refine g_icmp_gt (tgt := 260) X h dL_hunt_253 (by decide) (fun h => ?_) (fun h => ?_)
                                · exact hK283 (o400, o401, o402, o403, o404, o405, o406, o407, o408, o409) h
                                · refine g_iconst (v := 1) X dL_hunt_256 (by decide) ?_
                                  refine g_goto (tgt := 261) X dL_hunt_257 (by decide) ?_
                                  exact hK101 (o400, o401, o402, o403, o404, o405, o406, o407, o408, o409, 1) h
                        · intro K342 hK342 h
                          refine g_icmp_ne (tgt := 194) X h dL_hunt_187 (by decide) (fun h => ?_) (fun h => ?_)
                          · refine g_iconst (v := 0) X dL_hunt_194 (by decide) ?_
                            exact hK342 0 h
                          · refine g_iconst (v := 1) X dL_hunt_190 (by decide) ?_
                            refine g_goto (tgt := 195) X dL_hunt_191 (by decide) ?_
                            exact hK342 1 h
                      · intro K318 hK318 h
                        refine g_icmp_ne (tgt := 171) X h dL_hunt_164 (by decide) (fun h => ?_) (fun h => ?_)
                        · refine g_iconst (v := 0) X dL_hunt_171 (by decide) ?_
                          exact hK318 0 h
                        · refine g_iconst (v := 1) X dL_hunt_167 (by decide) ?_
                          refine g_goto (tgt := 172) X dL_hunt_168 (by decide) ?_
                          exact hK318 1 h
                    · intro K305 hK305 h
                      refine g_icmp_eq (tgt := 155) X h dL_hunt_127 (by decide) (fun h => ?_) (fun h => ?_)
                      · refine g_lv (lv' := [(0, .ref a0), (1, .int r1), (2, .int (l2_26 + r66)), (3, .int (l3_27 + s77)), (4, .int l4_28), (6, .int l6_30), (7, .int r55)]) [1, 2, 3, 0, 4, 5, 6] rfl ?_
                        exact hK305 (o285, o286, o287, o288, o289, o290, o291, o292, o293, o294) h
                      · refine g_aload_n X (j := 1) dL_hunt_130 rfl ?_
                        refine g_iload X (j := 5) dL_hunt_131 rfl ?_
                        refine g_iconst (v := 5) X dL_hunt_133 (by decide) ?_
                        obtain ⟨r410, o411, o412, o413, o414, o415, o416, o417, o418, o419, o420, hc, h⟩ := bd11 h
                        refine g_callV (q0 := 0) (ci := 4) (is := [0, 1, 2, 3, 4, 5, 7, 8, 9, 10, 11, 12, 13]) (As := [.int l6_30, .int 5]) (ws' := [(a0, .inr (4, [.ref a1, .ref b0_1, .ref a6, .ref a7, .ref b0_4, .ref b0_5, .ref b0_6, .int x0_length, .int o411])), (a1, .inr (2, [.ref a2, .ref a3, .ref a4, .ref a5, .int x1_size])), (a2, .inl (cI, 10, .inl f2)), (a3, .inl (cI, 10, .inl f3)), (a4, .inl (cI, 10, .inl f4)), (a5, .inl (cI, 10, .inl f5)), (a6, .inr (0, [.ref b6_0, .int x6_size])), (a7, .inr (1, [.ref a8, .ref a9, .ref a10, .ref a11, .ref a12, .ref a13, .ref a14, .int o412, .int o413, .int o414])), (a8, .inl (cI, 10, .inl o415)), (a9, .inl (cI, 10, .inl o416)), (a10, .inl (cI, 10, .inl o417)), (a11, .inl (cI, 10, .inl o418)), (a12, .inl (cI, 10, .inl o419)), (a13, .inl (cI, 10, .inl o420)), (a14, .inl (cI, 1024, .inl w23))]) (st := []) X (c_X4_bookOf l D cI cS cL a0 a1 a2 a3 a4 a5 a7 a8 a9 a10 a11 a12 a13 b0_1 a6 b0_4 b0_5 b0_6 a14 l6_30 5 x0_length o285 x1_size f2 f3 f4 f5 o286 o287 o288 o289 o290 o291 o292 o293 o294 r410 o411 o412 o413 o414 o415 o416 o417 o418 o419 o420 hc) gL_hunt_X4_bookOf rfl ⟨rfl, rfl⟩ hd_X4_bookOf (by exact ⟨Nat.le_of_ble_eq_true rfl, Nat.le_of_ble_eq_true rfl⟩) ⟨Nat.zero_le _, Nat.zero_le _⟩ rfl rfl rfl rfl rfl rfl rfl (Nat.le_of_ble_eq_true rfl) rfl dL_hunt_134 ?_
                        refine g_iload X (j := 6) dL_hunt_137 rfl ?_
                        refine g_icmp_lt (tgt := 260) X h dL_hunt_139 (by decide) (fun h => ?_) (fun h => ?_)
                        · refine g_lv (lv' := [(0, .ref a0), (1, .int r1), (2, .int (l2_26 + r66)), (3, .int (l3_27 + s77)), (4, .int l4_28), (6, .int l6_30), (7, .int r55)]) [1, 2, 3, 0, 4, 5, 6] rfl ?_
                          exact hK283 (o411, o412, o413, o414, o415, o416, o417, o418, o419, o420) h
                        · refine g_aload_n X (j := 1) dL_hunt_142 rfl ?_
                          refine g_iload X (j := 5) dL_hunt_143 rfl ?_
                          refine g_bipush (v := 6) X dL_hunt_145 (by decide) ?_
                          obtain ⟨r421, o422, o423, o424, o425, o426, o427, o428, o429, o430, o431, hc, h⟩ := bd11 h
                          refine g_callV (q0 := 0) (ci := 4) (is := [0, 1, 2, 3, 4, 5, 7, 8, 9, 10, 11, 12, 13]) (As := [.int l6_30, .int 6]) (ws' := [(a0, .inr (4, [.ref a1, .ref b0_1, .ref a6, .ref a7, .ref b0_4, .ref b0_5, .ref b0_6, .int x0_length, .int o422])), (a1, .inr (2, [.ref a2, .ref a3, .ref a4, .ref a5, .int x1_size])), (a2, .inl (cI, 10, .inl f2)), (a3, .inl (cI, 10, .inl f3)), (a4, .inl (cI, 10, .inl f4)), (a5, .inl (cI, 10, .inl f5)), (a6, .inr (0, [.ref b6_0, .int x6_size])), (a7, .inr (1, [.ref a8, .ref a9, .ref a10, .ref a11, .ref a12, .ref a13, .ref a14, .int o423, .int o424, .int o425])), (a8, .inl (cI, 10, .inl o426)), (a9, .inl (cI, 10, .inl o427)), (a10, .inl (cI, 10, .inl o428)), (a11, .inl (cI, 10, .inl o429)), (a12, .inl (cI, 10, .inl o430)), (a13, .inl (cI, 10, .inl o431)), (a14, .inl (cI, 1024, .inl w23))]) (st := []) X (c_X4_bookOf l D cI cS cL a0 a1 a2 a3 a4 a5 a7 a8 a9 a10 a11 a12 a13 b0_1 a6 b0_4 b0_5 b0_6 a14 l6_30 6 x0_length o411 x1_size f2 f3 f4 f5 o412 o413 o414 o415 o416 o417 o418 o419 o420 r421 o422 o423 o424 o425 o426 o427 o428 o429 o430 o431 hc) gL_hunt_X4_bookOf rfl ⟨rfl, rfl⟩ hd_X4_bookOf (by exact ⟨Nat.le_of_ble_eq_true rfl, Nat.le_of_ble_eq_true rfl⟩) ⟨Nat.zero_le _, Nat.zero_le _⟩ rfl rfl rfl rfl rfl rfl rfl (Nat.le_of_ble_eq_true rfl) rfl dL_hunt_147 ?_
                          refine g_iload X (j := 6) dL_hunt_150 rfl ?_
                          refine g_icmp_gt (tgt := 260) X h dL_hunt_152 (by decide) (fun h => ?_) (fun h => ?_)
                          · refine g_lv (lv' := [(0, .ref a0), (1, .int r1), (2, .int (l2_26 + r66)), (3, .int (l3_27 + s77)), (4, .int l4_28), (6, .int l6_30), (7, .int r55)]) [1, 2, 3, 0, 4, 5, 6] rfl ?_
                            exact hK283 (o422, o423, o424, o425, o426, o427, o428, o429, o430, o431) h
                          · refine g_lv (lv' := [(0, .ref a0), (1, .int r1), (2, .int (l2_26 + r66)), (3, .int (l3_27 + s77)), (4, .int l4_28), (6, .int l6_30), (7, .int r55)]) [1, 2, 3, 0, 4, 5, 6] rfl ?_
                            exact hK305 (o422, o423, o424, o425, o426, o427, o428, o429, o430, o431) h
          · intro K78 hK78 h
            refine g_if_lt (tgt := 94) X h dL_hunt_87 (by decide) (fun h => ?_) (fun h => ?_)
            · refine g_iconst (v := 0) X dL_hunt_94 (by decide) ?_
              refine g_lv (lv' := [(0, .ref a0), (1, .int r1), (2, .int (l2_26 + r66)), (4, .int l4_28), (6, .int l6_30), (7, .int r55)]) [2, 3, 0, 5, 7, 1] rfl ?_
              exact hK78 0 h
            · refine g_iconst (v := 1) X dL_hunt_90 (by decide) ?_
              refine g_goto (tgt := 95) X dL_hunt_91 (by decide) ?_
              refine g_lv (lv' := [(0, .ref a0), (1, .int r1), (2, .int (l2_26 + r66)), (4, .int l4_28), (6, .int l6_30), (7, .int r55)]) [2, 3, 0, 5, 7, 1] rfl ?_
              exact hK78 1 h
  · intro K25 hK25 h
    refine jn_g h (u11 fun w493 w494 w495 w496 w497 w498 w499 w500 w501 w502 w503 => [(a0, .inr (4, [.ref a1, .ref b0_1, .ref a6, .ref a7, .ref b0_4, .ref b0_5, .ref b0_6, .int x0_length, .int w493])), (a1, .inr (2, [.ref a2, .ref a3, .ref a4, .ref a5, .int x1_size])), (a2, .inl (cI, 10, .inl f2)), (a3, .inl (cI, 10, .inl f3)), (a4, .inl (cI, 10, .inl f4)), (a5, .inl (cI, 10, .inl f5)), (a6, .inr (0, [.ref b6_0, .int x6_size])), (a7, .inr (1, [.ref a8, .ref a9, .ref a10, .ref a11, .ref a12, .ref a13, .ref a14, .int w494, .int w495, .int w496])), (a8, .inl (cI, 10, .inl w497)), (a9, .inl (cI, 10, .inl w498)), (a10, .inl (cI, 10, .inl w499)), (a11, .inl (cI, 10, .inl w500)), (a12, .inl (cI, 10, .inl w501)), (a13, .inl (cI, 10, .inl w502)), (a14, .inl (cI, 1024, .inl w503))]) (u11 fun w493 w494 w495 w496 w497 w498 w499 w500 w501 w502 w503 => [(0, .ref a0), (1, .int r1), (2, .int 0), (3, .int 0), (4, .int 0)]) (u11 fun w493 w494 w495 w496 w497 w498 w499 w500 w501 w502 w503 => []) 47 ?_ ?_
    · rintro ⟨w493, w494, w495, w496, w497, w498, w499, w500, w501, w502, w503⟩ h
      dsimp only [u11] at h ⊢
      refine g_iconst (v := 0) X dL_hunt_47 (by decide) ?_
      exact hK25 (w493, w494, w495, w496, w497, w498, w499, w500, w501, w502, w503, 0) h
    · intro K504 hK504 h
      refine g_icmp_gt (tgt := 47) X h dL_hunt_16 (by decide) (fun h => ?_) (fun h => ?_)
      · refine g_lv (lv' := [(0, .ref a0), (1, .int r1), (2, .int 0), (3, .int 0), (4, .int 0)]) [4, 3, 2, 1, 0] rfl ?_
        exact hK504 (o2, o3, o4, o5, o6, o7, o8, o9, o10, o11, o12) h
      · refine g_aload_n X (j := 4) dL_hunt_19 rfl ?_
        refine g_bipush (v := 7) X dL_hunt_20 (by decide) ?_
        obtain ⟨r505, o506, o507, o508, o509, o510, o511, o512, o513, o514, o515, o516, hc, h⟩ := bd12 h
        refine g_callVF (q0 := 0) (ci := 4) (is := [0, 1, 2, 3, 4, 5, 6, 7, 8, 9, 10, 11, 12, 13, 14]) (isR := []) (wr := []) (As := [.int 7]) (st := []) X (c_X4_count l D cI cS cL a0 a1 a2 a3 a4 a5 a6 a7 a8 a9 a10 a11 a12 a13 a14 b0_1 b0_4 b0_5 b0_6 b6_0 7 x0_length o2 x1_size f2 f3 f4 f5 x6_size o3 o4 o5 o6 o7 o8 o9 o10 o11 o12 r505 o506 o507 o508 o509 o510 o511 o512 o513 o514 o515 o516 hc) gL_hunt_X4_count rfl ⟨rfl, rfl⟩ hd_X4_count (by exact ⟨Nat.le_of_ble_eq_true rfl, Nat.le_of_ble_eq_true rfl⟩) ⟨Nat.zero_le _, Nat.zero_le _⟩ rfl rfl rfl (by decide +kernel) rfl (by decide +kernel) (by decide +kernel) rfl (Nat.le_of_ble_eq_true rfl) rfl dL_hunt_22 ?_
        rintro _ rfl
        refine g_ws (ws' := [(a0, .inr (4, [.ref a1, .ref b0_1, .ref a6, .ref a7, .ref b0_4, .ref b0_5, .ref b0_6, .int x0_length, .int o506])), (a1, .inr (2, [.ref a2, .ref a3, .ref a4, .ref a5, .int x1_size])), (a2, .inl (cI, 10, .inl f2)), (a3, .inl (cI, 10, .inl f3)), (a4, .inl (cI, 10, .inl f4)), (a5, .inl (cI, 10, .inl f5)), (a6, .inr (0, [.ref b6_0, .int x6_size])), (a7, .inr (1, [.ref a8, .ref a9, .ref a10, .ref a11, .ref a12, .ref a13, .ref a14, .int o507, .int o508, .int o509])), (a8, .inl (cI, 10, .inl o510)), (a9, .inl (cI, 10, .inl o511)), (a10, .inl (cI, 10, .inl o512)), (a11, .inl (cI, 10, .inl o513)), (a12, .inl (cI, 10, .inl o514)), (a13, .inl (cI, 10, .inl o515)), (a14, .inl (cI, 1024, .inl o516))]) [0, 1, 2, 3, 4, 5, 6, 7, 8, 9, 10, 11, 12, 13, 14] rfl (by decide +kernel) ?_
        refine g_aload_n X (j := 4) dL_hunt_25 rfl ?_
        refine g_bipush (v := 8) X dL_hunt_26 (by decide) ?_
        obtain ⟨r517, o518, o519, o520, o521, o522, o523, o524, o525, o526, o527, o528, hc, h⟩ := bd12 h
        refine g_callVF (q0 := 0) (ci := 4) (is := [0, 1, 2, 3, 4, 5, 6, 7, 8, 9, 10, 11, 12, 13, 14]) (isR := []) (wr := []) (As := [.int 8]) (st := [.int r505]) X (c_X4_count l D cI cS cL a0 a1 a2 a3 a4 a5 a6 a7 a8 a9 a10 a11 a12 a13 a14 b0_1 b0_4 b0_5 b0_6 b6_0 8 x0_length o506 x1_size f2 f3 f4 f5 x6_size o507 o508 o509 o510 o511 o512 o513 o514 o515 o516 r517 o518 o519 o520 o521 o522 o523 o524 o525 o526 o527 o528 hc) gL_hunt_X4_count rfl ⟨rfl, rfl⟩ hd_X4_count (by exact ⟨Nat.le_of_ble_eq_true rfl, Nat.le_of_ble_eq_true rfl⟩) ⟨Nat.zero_le _, Nat.zero_le _⟩ rfl rfl rfl (by decide +kernel) rfl (by decide +kernel) (by decide +kernel) rfl (Nat.le_of_ble_eq_true rfl) rfl dL_hunt_28 ?_
        rintro _ rfl
        refine g_ws (ws' := [(a0, .inr (4, [.ref a1, .ref b0_1, .ref a6, .ref a7, .ref b0_4, .ref b0_5, .ref b0_6, .int x0_length, .int o518])), (a1, .inr (2, [.ref a2, .ref a3, .ref a4, .ref a5, .int x1_size])), (a2, .inl (cI, 10, .inl f2)), (a3, .inl (cI, 10, .inl f3)), (a4, .inl (cI, 10, .inl f4)), (a5, .inl (cI, 10, .inl f5)), (a6, .inr (0, [.ref b6_0, .int x6_size])), (a7, .inr (1, [.ref a8, .ref a9, .ref a10, .ref a11, .ref a12, .ref a13, .ref a14, .int o519, .int o520, .int o521])), (a8, .inl (cI, 10, .inl o522)), (a9, .inl (cI, 10, .inl o523)), (a10, .inl (cI, 10, .inl o524)), (a11, .inl (cI, 10, .inl o525)), (a12, .inl (cI, 10, .inl o526)), (a13, .inl (cI, 10, .inl o527)), (a14, .inl (cI, 1024, .inl o528))]) [0, 1, 2, 3, 4, 5, 6, 7, 8, 9, 10, 11, 12, 13, 14] rfl (by decide +kernel) ?_
        refine g_iadd X dL_hunt_31 ?_
        refine g_aload_n X (j := 4) dL_hunt_32 rfl ?_
        refine g_bipush (v := 9) X dL_hunt_33 (by decide) ?_
        obtain ⟨r529, o530, o531, o532, o533, o534, o535, o536, o537, o538, o539, o540, hc, h⟩ := bd12 h
        refine g_callVF (q0 := 0) (ci := 4) (is := [0, 1, 2, 3, 4, 5, 6, 7, 8, 9, 10, 11, 12, 13, 14]) (isR := []) (wr := []) (As := [.int 9]) (st := [.int (r505 + r517)]) X (c_X4_count l D cI cS cL a0 a1 a2 a3 a4 a5 a6 a7 a8 a9 a10 a11 a12 a13 a14 b0_1 b0_4 b0_5 b0_6 b6_0 9 x0_length o518 x1_size f2 f3 f4 f5 x6_size o519 o520 o521 o522 o523 o524 o525 o526 o527 o528 r529 o530 o531 o532 o533 o534 o535 o536 o537 o538 o539 o540 hc) gL_hunt_X4_count rfl ⟨rfl, rfl⟩ hd_X4_count (by exact ⟨Nat.le_of_ble_eq_true rfl, Nat.le_of_ble_eq_true rfl⟩) ⟨Nat.zero_le _, Nat.zero_le _⟩ rfl rfl rfl (by decide +kernel) rfl (by decide +kernel) (by decide +kernel) rfl (Nat.le_of_ble_eq_true rfl) rfl dL_hunt_35 ?_
        rintro _ rfl
        refine g_ws (ws' := [(a0, .inr (4, [.ref a1, .ref b0_1, .ref a6, .ref a7, .ref b0_4, .ref b0_5, .ref b0_6, .int x0_length, .int o530])), (a1, .inr (2, [.ref a2, .ref a3, .ref a4, .ref a5, .int x1_size])), (a2, .inl (cI, 10, .inl f2)), (a3, .inl (cI, 10, .inl f3)), (a4, .inl (cI, 10, .inl f4)), (a5, .inl (cI, 10, .inl f5)), (a6, .inr (0, [.ref b6_0, .int x6_size])), (a7, .inr (1, [.ref a8, .ref a9, .ref a10, .ref a11, .ref a12, .ref a13, .ref a14, .int o531, .int o532, .int o533])), (a8, .inl (cI, 10, .inl o534)), (a9, .inl (cI, 10, .inl o535)), (a10, .inl (cI, 10, .inl o536)), (a11, .inl (cI, 10, .inl o537)), (a12, .inl (cI, 10, .inl o538)), (a13, .inl (cI, 10, .inl o539)), (a14, .inl (cI, 1024, .inl o540))]) [0, 1, 2, 3, 4, 5, 6, 7, 8, 9, 10, 11, 12, 13, 14] rfl (by decide +kernel) ?_
        refine g_iadd X dL_hunt_38 ?_
        refine g_iload_n X (j := 3) dL_hunt_39 rfl ?_
        refine g_icmp_ne (tgt := 47) X h dL_hunt_40 (by decide) (fun h => ?_) (fun h => ?_)
        · refine g_lv (lv' := [(0, .ref a0), (1, .int r1), (2, .int 0), (3, .int 0), (4, .int 0)]) [4, 3, 2, 1, 0] rfl ?_
          exact hK504 (o530, o531, o532, o533, o534, o535, o536, o537, o538, o539, o540) h
        · refine g_iconst (v := 1) X dL_hunt_43 (by decide) ?_
          refine g_goto (tgt := 48) X dL_hunt_44 (by decide) ?_
          refine g_lv (lv' := [(0, .ref a0), (1, .int r1), (2, .int 0), (3, .int 0), (4, .int 0)]) [4, 3, 2, 1, 0] rfl ?_
          exact hK25 (o530, o531, o532, o533, o534, o535, o536, o537, o538, o539, o540, 1) h
