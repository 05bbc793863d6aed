theorem kk_L_orders_0 : GoodIn wsL_law [.code yL_orders cL_orders 9 (some .boolean)] := goodIn_r _ [324] (by decide +kernel) (by decide +kernel)
set_option maxRecDepth 20000 in
theorem kk_L_orders_wsL_orders_r1 : GoodIn wsL_law wsL_orders_r1 := goodIn_r _ [71, 72, 73, 2, 74, 75, 76, 77, 78, 79, 80, 12, 81, 17, 82, 83, 84, 85, 86, 30, 21, 87, 88, 89] (by decide +kernel) (by decide +kernel)
set_option maxRecDepth 20000 in
theorem kk_L_orders_wsL_orders_r2 : GoodIn wsL_law wsL_orders_r2 := goodIn_r _ [20, 90, 91, 61, 59, 92, 93, 94, 95, 52, 53, 96, 97, 98, 11, 99, 35, 36, 37, 38, 100, 101, 102, 103] (by decide +kernel) (by decide +kernel)
set_option maxRecDepth 20000 in
theorem kk_L_orders_wsL_orders_r3 : GoodIn wsL_law wsL_orders_r3 := goodIn_r _ [56, 57, 60, 104, 105, 106, 107, 108, 109, 110, 111, 112, 113, 114, 115, 116, 117, 118, 54, 55, 119, 120, 121, 122] (by decide +kernel) (by decide +kernel)
set_option maxRecDepth 20000 in
theorem kk_L_orders_wsL_orders_r4 : GoodIn wsL_law wsL_orders_r4 := goodIn_r _ [123, 124, 125, 126, 127, 128, 129, 130, 39, 131, 132, 133, 134, 135, 136, 137, 138, 139, 140, 141, 142, 143, 144, 145] (by decide +kernel) (by decide +kernel)
set_option maxRecDepth 20000 in
theorem kk_L_orders_wsL_orders_r5 : GoodIn wsL_law wsL_orders_r5 := goodIn_r _ [146, 147, 148, 149, 150, 151, 152, 153, 58, 154, 155, 156, 157, 158, 159, 160, 161, 162, 163, 164, 165, 325, 326, 327] (by decide +kernel) (by decide +kernel)
set_option maxRecDepth 20000 in
theorem kk_L_orders_wsL_orders_r6 : GoodIn wsL_law wsL_orders_r6 := goodIn_r _ [328, 329, 330, 331, 332, 313, 314, 315, 168, 316, 333, 334, 335, 336, 337, 338, 339, 340, 341, 342, 343, 344, 345, 346] (by decide +kernel) (by decide +kernel)
set_option maxRecDepth 20000 in
theorem kk_L_orders_wsL_orders_r7 : GoodIn wsL_law wsL_orders_r7 := goodIn_r _ [347, 348, 179, 180, 181, 182, 183, 184, 349, 350, 351, 352, 353, 354, 355, 356, 357, 358, 359, 360, 361, 362, 363, 364] (by decide +kernel) (by decide +kernel)
set_option maxRecDepth 20000 in
theorem kk_L_orders_wsL_orders_r8 : GoodIn wsL_law wsL_orders_r8 := goodIn_r _ [317, 318, 319, 320, 321] (by decide +kernel) (by decide +kernel)
set_option maxRecDepth 20000 in
theorem ggL_law_L_orders : GoodIn wsL_law wsL_orders := goodIn_ca (goodIn_ca (goodIn_app kk_L_orders_0 (goodIn_app (goodIn_app (goodIn_app (goodIn_app (goodIn_app kk_L_orders_wsL_orders_r1 (goodIn_app kk_L_orders_wsL_orders_r2 (goodIn_app kk_L_orders_wsL_orders_r3 (goodIn_app kk_L_orders_wsL_orders_r4 (goodIn_app kk_L_orders_wsL_orders_r5 (goodIn_app kk_L_orders_wsL_orders_r6 (goodIn_app kk_L_orders_wsL_orders_r7 kk_L_orders_wsL_orders_r8))))))) (goodIn_sub inlX4 (by decide +kernel))) (goodIn_sub inlX2 (by decide +kernel))) (goodIn_sub inlX0 (by decide +kernel))) (goodIn_sub inlX1 (by decide +kernel)))) (goodIn_sub (fun _ h => List.mem_append_left _ (List.mem_append_left _ (List.mem_append_right _ h))) (by decide +kernel))) (goodIn_sub (fun _ h => List.mem_append_left _ (List.mem_append_right _ h)) (by decide +kernel))
set_option maxRecDepth 20000 in
theorem gL_law_L_orders : GoodIn wsL_law (va_wsS RL 91 yL_orders wsL_orders) := goodIn_app (goodIn_of _ (by decide +kernel)) ggL_law_L_orders
