set_option maxRecDepth 20000 in
theorem ggL_law_X5_crack : GoodIn wsL_law wsX5_crack := goodIn_r _ [224, 151, 79, 202, 203, 204, 5, 205, 152, 153, 154, 225, 226, 227, 161, 162, 163, 164, 165, 166, 167, 168, 87, 81, 169, 170, 171, 228, 229, 230, 795, 796, 797, 798, 799, 800, 801, 802, 803, 804, 805, 806, 807, 808, 809] (by decide +kernel) (by decide +kernel)
set_option maxRecDepth 20000 in
theorem gL_law_X5_crack : GoodIn wsL_law (wsV RL 92 RX5 yX5_crack wsX5_crack) := goodIn_app (goodIn_of _ (by decide +kernel)) ggL_law_X5_crack
set_option maxRecDepth 20000 in
theorem ggL_law_L_mould : GoodIn wsL_law wsL_mould := goodIn_ca (goodIn_ca (goodIn_r _ [233, 183, 92, 234, 235, 236, 2, 237, 188, 189, 98, 99, 16, 238, 190, 191, 192, 193, 102, 109, 110, 111, 118, 119, 120, 121, 21, 34, 122, 123, 124, 20, 125, 50, 49, 126, 127, 128, 129, 130, 131, 132, 15, 133, 134, 135, 136, 137, 43, 138, 139, 140, 141, 39, 40, 41, 42, 142, 143, 144, 145, 786, 787, 788, 789, 790, 791, 792, 793, 794, 810, 811, 812, 813, 814, 815, 816] (by decide +kernel) (by decide +kernel)) (goodIn_sub (fun _ h => List.mem_append_right _ h) (by decide +kernel))) (goodIn_sub (fun _ h => List.mem_append_left _ (List.mem_append_left _ (List.mem_append_right _ h))) (by decide +kernel))
set_option maxRecDepth 20000 in
theorem gL_law_L_mould : GoodIn wsL_law (va_wsS RL 93 yL_mould wsL_mould) := goodIn_app (goodIn_of _ (by decide +kernel)) ggL_law_L_mould
set_option maxRecDepth 20000 in
theorem ggL_law_X5_mould : GoodIn wsL_law wsX5_mould := goodIn_r _ [242, 151, 202, 203, 204, 5, 205, 79, 152, 153, 154, 161, 162, 163, 164, 155, 156, 157, 165, 166, 167, 168, 87, 81, 169, 170, 171, 243, 244, 245, 246, 795, 796, 797, 798, 799, 800, 801, 802, 803, 804, 805, 806, 807, 808, 809] (by decide +kernel) (by decide +kernel)
set_option maxRecDepth 20000 in
theorem gL_law_X5_mould : GoodIn wsL_law (wsV RL 96 RX5 yX5_mould wsX5_mould) := goodIn_app (goodIn_of _ (by decide +kernel)) ggL_law_X5_mould
set_option maxRecDepth 20000 in
theorem ggL_law_L_year : GoodIn wsL_law wsL_year := goodIn_ca (goodIn_ca (goodIn_r _ [249, 183, 92, 250, 251, 252, 2, 253, 188, 189, 98, 99, 16, 254, 190, 191, 192, 193, 102, 112, 113, 114, 115, 116, 117, 118, 119, 120, 121, 21, 34, 122, 123, 124, 20, 125, 50, 49, 126, 127, 128, 129, 130, 131, 132, 15, 133, 134, 135, 136, 137, 43, 138, 139, 140, 141, 39, 40, 41, 42, 142, 143, 144, 145, 786, 787, 788, 789, 790, 791, 792, 793, 794, 810, 811, 812, 813, 814, 815, 816] (by decide +kernel) (by decide +kernel)) (goodIn_sub (fun _ h => List.mem_append_right _ h) (by decide +kernel))) (goodIn_sub (fun _ h => List.mem_append_left _ (List.mem_append_left _ (List.mem_append_right _ h))) (by decide +kernel))
set_option maxRecDepth 20000 in
theorem gL_law_L_year : GoodIn wsL_law (va_wsS RL 97 yL_year wsL_year) := goodIn_app (goodIn_of _ (by decide +kernel)) ggL_law_L_year
set_option maxRecDepth 20000 in
theorem ggL_law_X5_year : GoodIn wsL_law wsX5_year := goodIn_r _ [258, 151, 202, 203, 204, 5, 205, 79, 152, 153, 154, 161, 162, 163, 164, 158, 159, 160, 165, 166, 167, 168, 87, 81, 169, 170, 171, 243, 244, 245, 246, 795, 796, 797, 798, 799, 800, 801, 802, 803, 804, 805, 806, 807, 808, 809] (by decide +kernel) (by decide +kernel)
set_option maxRecDepth 20000 in
theorem gL_law_X5_year : GoodIn wsL_law (wsV RL 99 RX5 yX5_year wsX5_year) := goodIn_app (goodIn_of _ (by decide +kernel)) ggL_law_X5_year
set_option maxRecDepth 20000 in
theorem ggL_law_L_press : GoodIn wsL_law wsL_press := goodIn_ca (goodIn_ca (goodIn_r _ [261, 183, 92, 262, 263, 264, 2, 265, 188, 189, 98, 99, 16, 266, 190, 191, 192, 193, 102, 103, 104, 105, 118, 119, 120, 121, 21, 34, 122, 123, 124, 20, 125, 50, 49, 126, 127, 128, 129, 130, 131, 132, 15, 133, 134, 135, 136, 137, 43, 138, 139, 140, 141, 39, 40, 41, 42, 142, 143, 144, 145, 786, 787, 788, 789, 790, 791, 792, 793, 794, 810, 811, 812, 813, 814, 815, 816] (by decide +kernel) (by decide +kernel)) (goodIn_sub (fun _ h => List.mem_append_right _ h) (by decide +kernel))) (goodIn_sub (fun _ h => List.mem_append_left _ (List.mem_append_left _ (List.mem_append_right _ h))) (by decide +kernel))
set_option maxRecDepth 20000 in
theorem gL_law_L_press : GoodIn wsL_law (va_wsS RL 100 yL_press wsL_press) := goodIn_app (goodIn_of _ (by decide +kernel)) ggL_law_L_press
set_option maxRecDepth 20000 in
theorem ggL_law_X5_press : GoodIn wsL_law wsX5_press := goodIn_r _ [270, 151, 202, 203, 204, 5, 205, 79, 152, 153, 154, 161, 162, 163, 164, 165, 166, 167, 168, 87, 81, 169, 170, 171, 243, 244, 245, 246, 795, 796, 797, 798, 799, 800, 801, 802, 803, 804, 805, 806, 807, 808, 809] (by decide +kernel) (by decide +kernel)
set_option maxRecDepth 20000 in
theorem gL_law_X5_press : GoodIn wsL_law (wsV RL 102 RX5 yX5_press wsX5_press) := goodIn_app (goodIn_of _ (by decide +kernel)) ggL_law_X5_press
set_option maxRecDepth 20000 in
theorem ggL_law_X4_date : GoodIn wsL_law wsX4_date := goodIn_r _ [274, 16, 102, 254, 275, 276, 277, 278, 2, 279, 34, 25, 280, 281, 282, 24, 283, 284, 65, 63, 285, 286, 287, 288, 56, 57, 289, 290, 291, 15, 292, 39, 40, 41, 42, 293, 294, 295, 296, 60, 61, 64, 297, 298, 299, 300, 301, 302, 303, 304, 305, 306, 307, 308, 309, 310, 311, 58, 59, 118, 119, 120, 121, 21, 122, 123, 124, 20, 125, 50, 49, 126, 127, 128, 129, 130, 131, 132, 133, 134, 135, 136, 137, 43, 138, 139, 140, 141, 142, 143, 144, 145, 312, 313, 314, 315, 786, 787, 788, 789, 790, 791, 792, 793, 794, 810, 811, 812, 813, 814, 817, 818, 819, 820, 821, 822, 823, 824, 825, 826, 815, 816] (by decide +kernel) (by decide +kernel)
set_option maxRecDepth 20000 in
theorem gL_law_X4_date : GoodIn wsL_law (wsV RL 103 RX4 yX4_date wsX4_date) := goodIn_app (goodIn_of _ (by decide +kernel)) ggL_law_X4_date
