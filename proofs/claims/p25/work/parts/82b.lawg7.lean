theorem kk_L_hunt_0 : GoodIn wsL_law [.code yL_hunt cL_hunt 11 (some .boolean)] := goodIn_r _ [301] (by decide +kernel) (by decide +kernel)
set_option maxRecDepth 20000 in
theorem kk_L_hunt_wsL_hunt_r1 : GoodIn wsL_law wsL_hunt_r1 := goodIn_r _ [71, 72, 73, 2, 74, 75, 76, 77, 78, 79, 80, 12, 81, 17, 82, 83, 84, 85, 86, 30, 21, 87, 88, 89] (by decide +kernel) (by decide +kernel)
set_option maxRecDepth 20000 in
theorem kk_L_hunt_wsL_hunt_r2 : GoodIn wsL_law wsL_hunt_r2 := goodIn_r _ [20, 90, 91, 61, 59, 92, 93, 94, 95, 52, 53, 96, 97, 98, 11, 99, 35, 36, 37, 38, 100, 101, 102, 103] (by decide +kernel) (by decide +kernel)
set_option maxRecDepth 20000 in
theorem kk_L_hunt_wsL_hunt_r3 : GoodIn wsL_law wsL_hunt_r3 := goodIn_r _ [56, 57, 60, 104, 105, 106, 107, 108, 109, 110, 111, 112, 113, 114, 115, 116, 117, 118, 54, 55, 119, 120, 121, 122] (by decide +kernel) (by decide +kernel)
set_option maxRecDepth 20000 in
theorem kk_L_hunt_wsL_hunt_r4 : GoodIn wsL_law wsL_hunt_r4 := goodIn_r _ [123, 124, 125, 126, 127, 128, 129, 130, 39, 131, 132, 133, 134, 135, 136, 137, 138, 139, 140, 141, 142, 143, 144, 145] (by decide +kernel) (by decide +kernel)
set_option maxRecDepth 20000 in
theorem kk_L_hunt_wsL_hunt_r5 : GoodIn wsL_law wsL_hunt_r5 := goodIn_r _ [146, 147, 148, 149, 150, 151, 152, 153, 58, 154, 155, 156, 157, 158, 159, 160, 161, 162, 163, 164, 165, 302, 303, 304] (by decide +kernel) (by decide +kernel)
set_option maxRecDepth 20000 in
theorem kk_L_hunt_wsL_hunt_r6 : GoodIn wsL_law wsL_hunt_r6 := goodIn_r _ [305, 179, 180, 181, 182, 183, 184, 306, 307, 308, 309, 281, 260, 272, 192, 286, 310, 311, 312, 313, 287, 314, 315, 168] (by decide +kernel) (by decide +kernel)
set_option maxRecDepth 20000 in
theorem kk_L_hunt_wsL_hunt_r7 : GoodIn wsL_law wsL_hunt_r7 := goodIn_r _ [316, 317, 318, 319, 320, 321] (by decide +kernel) (by decide +kernel)
set_option maxRecDepth 20000 in
theorem ggL_law_L_hunt : GoodIn wsL_law wsL_hunt := goodIn_ca (goodIn_ca (goodIn_app kk_L_hunt_0 (goodIn_app (goodIn_app (goodIn_app (goodIn_app (goodIn_app kk_L_hunt_wsL_hunt_r1 (goodIn_app kk_L_hunt_wsL_hunt_r2 (goodIn_app kk_L_hunt_wsL_hunt_r3 (goodIn_app kk_L_hunt_wsL_hunt_r4 (goodIn_app kk_L_hunt_wsL_hunt_r5 (goodIn_app kk_L_hunt_wsL_hunt_r6 kk_L_hunt_wsL_hunt_r7)))))) (goodIn_sub inlX4 (by decide +kernel))) (goodIn_sub inlX2 (by decide +kernel))) (goodIn_sub inlX0 (by decide +kernel))) (goodIn_sub inlX1 (by decide +kernel)))) (goodIn_sub (fun _ h => List.mem_append_left _ (List.mem_append_left _ (List.mem_append_right _ h))) (by decide +kernel))) (goodIn_sub (fun _ h => List.mem_append_left _ (List.mem_append_right _ h)) (by decide +kernel))
set_option maxRecDepth 20000 in
theorem gL_law_L_hunt : GoodIn wsL_law (va_wsS RL 87 yL_hunt wsL_hunt) := goodIn_app (goodIn_of _ (by decide +kernel)) ggL_law_L_hunt
