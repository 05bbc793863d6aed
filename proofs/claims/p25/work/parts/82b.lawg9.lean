theorem kk_X4_tells_0 : GoodIn wsL_law [.code yX4_tells cX4_tells 2 (some .int)] := goodIn_r _ [368] (by decide +kernel) (by decide +kernel)
set_option maxRecDepth 20000 in
theorem kk_X4_tells_wsX4_tells_r1 : GoodIn wsL_law wsX4_tells_r1 := goodIn_r _ [179, 180, 261, 262, 2, 263, 369, 370, 371, 372, 13, 12, 81, 22, 193, 194, 195, 11, 196, 197, 198, 199, 200, 39] (by decide +kernel) (by decide +kernel)
set_option maxRecDepth 20000 in
theorem kk_X4_tells_wsX4_tells_r2 : GoodIn wsL_law wsX4_tells_r2 := goodIn_r _ [201, 202, 203, 204, 35, 36, 37, 38, 205, 206, 207, 208, 264, 265, 266, 267, 87, 88, 89, 20, 90, 91, 61, 59] (by decide +kernel) (by decide +kernel)
set_option maxRecDepth 20000 in
theorem kk_X4_tells_wsX4_tells_r3 : GoodIn wsL_law wsX4_tells_r3 := goodIn_r _ [92, 93, 94, 95, 52, 53, 96, 97, 98, 99, 100, 101, 102, 103, 56, 57, 60, 104, 105, 106, 107, 108, 109, 110] (by decide +kernel) (by decide +kernel)
set_option maxRecDepth 20000 in
theorem kk_X4_tells_wsX4_tells_r4 : GoodIn wsL_law wsX4_tells_r4 := goodIn_r _ [111, 112, 113, 114, 115, 116, 117, 118, 54, 55, 142, 143, 144, 145, 146, 147, 148, 149, 150, 151, 152, 153, 58, 154] (by decide +kernel) (by decide +kernel)
set_option maxRecDepth 20000 in
theorem kk_X4_tells_wsX4_tells_r5 : GoodIn wsL_law wsX4_tells_r5 := goodIn_r _ [155, 156, 157, 83, 84, 85, 86, 30, 21] (by decide +kernel) (by decide +kernel)
set_option maxRecDepth 20000 in
theorem ggL_law_X4_tells : GoodIn wsL_law wsX4_tells := goodIn_ca (goodIn_app kk_X4_tells_0 (goodIn_app (goodIn_app (goodIn_app (goodIn_app kk_X4_tells_wsX4_tells_r1 (goodIn_app kk_X4_tells_wsX4_tells_r2 (goodIn_app kk_X4_tells_wsX4_tells_r3 (goodIn_app kk_X4_tells_wsX4_tells_r4 kk_X4_tells_wsX4_tells_r5)))) (goodIn_sub inlX4 (by decide +kernel))) (goodIn_sub inlX2 (by decide +kernel))) (goodIn_sub inlX1 (by decide +kernel)))) (goodIn_sub (fun _ h => List.mem_append_left _ (List.mem_append_right _ h)) (by decide +kernel))
set_option maxRecDepth 20000 in
theorem gL_law_X4_tells : GoodIn wsL_law (wsV RL 94 RX4 yX4_tells wsX4_tells) := goodIn_app (goodIn_of _ (by decide +kernel)) ggL_law_X4_tells
