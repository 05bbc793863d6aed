set_option maxRecDepth 20000 in
theorem ggL_law_X5_books : GoodIn wsL_law wsX5_books := goodIn_r _ [470, 151, 79, 426, 349, 83, 422, 423, 424, 5, 425, 421, 420, 427, 428, 429, 430, 82, 431, 432, 433, 434, 152, 153, 154, 435, 436, 437, 438, 439, 440, 441, 442, 443, 444, 445, 446, 447, 448, 449, 450, 451, 161, 162, 163, 164, 165, 166, 167, 168, 87, 81, 169, 170, 171, 172, 173, 174, 175, 795, 796, 797, 798, 799, 800, 801, 802, 803, 804, 805, 806, 807, 808, 809] (by decide +kernel) (by decide +kernel)
set_option maxRecDepth 20000 in
theorem gL_law_X5_books : GoodIn wsL_law (wsV RL 121 RX5 yX5_books wsX5_books) := goodIn_app (goodIn_of _ (by decide +kernel)) ggL_law_X5_books
set_option maxRecDepth 20000 in
theorem ggL_law_L_undo : GoodIn wsL_law wsL_undo := goodIn_ca (goodIn_r _ [473, 93, 474, 475, 476, 2, 477, 100, 101, 21, 478, 16, 34, 479, 480, 481, 20, 482, 50, 49, 130, 131, 132, 15, 133, 134, 135, 136, 137, 43, 138, 139, 140, 141, 39, 40, 41, 42, 142, 143, 144, 145, 786, 787, 788, 789, 790, 791, 792, 793, 794, 815, 816, 810, 811, 812, 813, 814] (by decide +kernel) (by decide +kernel)) (goodIn_sub (fun _ h => List.mem_append_left _ (List.mem_append_right _ h)) (by decide +kernel))
set_option maxRecDepth 20000 in
theorem gL_law_L_undo : GoodIn wsL_law (va_wsS RL 122 yL_undo wsL_undo) := goodIn_app (goodIn_of _ (by decide +kernel)) ggL_law_L_undo
set_option maxRecDepth 20000 in
theorem ggL_law_X5_undo : GoodIn wsL_law wsX5_undo := goodIn_r _ [486, 151, 87, 81, 79, 161, 162, 163, 5, 164, 169, 170, 171, 795, 796, 797, 798, 799, 800, 801, 802, 803, 804, 805, 806, 807, 808, 809] (by decide +kernel) (by decide +kernel)
set_option maxRecDepth 20000 in
theorem gL_law_X5_undo : GoodIn wsL_law (wsV RL 124 RX5 yX5_undo wsX5_undo) := goodIn_app (goodIn_of _ (by decide +kernel)) ggL_law_X5_undo
set_option maxRecDepth 20000 in
theorem ggL_law_L_bookOf : GoodIn wsL_law wsL_bookOf := goodIn_ca (goodIn_ca (goodIn_r _ [489, 183, 92, 490, 491, 492, 2, 493, 188, 189, 98, 99, 190, 191, 192, 193, 16, 102, 494, 495, 496, 497, 266, 213, 238, 254, 275, 498, 499, 500, 276, 277, 278, 279, 34, 25, 280, 281, 282, 24, 283, 284, 65, 63, 285, 286, 287, 288, 56, 57, 289, 290, 291, 15, 292, 39, 40, 41, 42, 293, 294, 295, 296, 60, 61, 64, 297, 298, 299, 300, 301, 302, 303, 304, 305, 306, 307, 308, 309, 310, 311, 58, 59, 501, 502, 503, 504, 505, 506, 507, 312, 313, 314, 315, 786, 787, 788, 789, 790, 791, 792, 793, 794, 810, 811, 812, 813, 814, 817, 818, 819, 820, 821, 822, 823, 824, 825, 826] (by decide +kernel) (by decide +kernel)) (goodIn_sub (fun _ h => List.mem_append_right _ h) (by decide +kernel))) (goodIn_sub (fun _ h => List.mem_append_left _ (List.mem_append_left _ (List.mem_append_right _ h))) (by decide +kernel))
set_option maxRecDepth 20000 in
theorem gL_law_L_bookOf : GoodIn wsL_law (va_wsS RL 125 yL_bookOf wsL_bookOf) := goodIn_app (goodIn_of _ (by decide +kernel)) ggL_law_L_bookOf
set_option maxRecDepth 20000 in
theorem ggL_law_X5_bookOf : GoodIn wsL_law wsX5_bookOf := goodIn_r _ [511, 151, 202, 203, 204, 5, 205, 79, 152, 153, 154, 161, 162, 163, 164, 512, 513, 514, 515, 86, 516, 517, 518, 519, 328, 329, 330, 228, 229, 230, 331, 332, 333, 520, 521, 522, 320, 321, 322, 323, 84, 324, 325, 326, 327, 334, 335, 336, 337, 795, 796, 797, 798, 799, 800, 801, 802, 803, 804, 805, 806, 807, 808, 809] (by decide +kernel) (by decide +kernel)
set_option maxRecDepth 20000 in
theorem gL_law_X5_bookOf : GoodIn wsL_law (wsV RL 127 RX5 yX5_bookOf wsX5_bookOf) := goodIn_app (goodIn_of _ (by decide +kernel)) ggL_law_X5_bookOf
set_option maxRecDepth 20000 in
theorem ggL_law_L_ahead : GoodIn wsL_law wsL_ahead := goodIn_ca (goodIn_ca (goodIn_r _ [525, 183, 92, 526, 527, 528, 2, 529, 188, 189, 98, 99, 16, 190, 191, 192, 193, 102, 530, 290, 291, 15, 292, 39, 40, 41, 42, 786, 787, 788, 789, 790, 791, 792, 793, 794, 810, 811, 812, 813, 814] (by decide +kernel) (by decide +kernel)) (goodIn_sub (fun _ h => List.mem_append_right _ h) (by decide +kernel))) (goodIn_sub (fun _ h => List.mem_append_left _ (List.mem_append_left _ (List.mem_append_right _ h))) (by decide +kernel))
set_option maxRecDepth 20000 in
theorem gL_law_L_ahead : GoodIn wsL_law (va_wsS RL 128 yL_ahead wsL_ahead) := goodIn_app (goodIn_of _ (by decide +kernel)) ggL_law_L_ahead
set_option maxRecDepth 20000 in
theorem ggL_law_X5_ahead : GoodIn wsL_law wsX5_ahead := goodIn_r _ [534, 151, 79, 202, 203, 204, 5, 205, 152, 153, 154, 161, 162, 163, 164, 328, 329, 330, 228, 229, 230, 331, 332, 333, 795, 796, 797, 798, 799, 800, 801, 802, 803, 804, 805, 806, 807, 808, 809] (by decide +kernel) (by decide +kernel)
set_option maxRecDepth 20000 in
theorem gL_law_X5_ahead : GoodIn wsL_law (wsV RL 130 RX5 yX5_ahead wsX5_ahead) := goodIn_app (goodIn_of _ (by decide +kernel)) ggL_law_X5_ahead
set_option maxRecDepth 20000 in
theorem ggL_law_L_count : GoodIn wsL_law wsL_count := goodIn_ca (goodIn_r _ [537, 92, 538, 539, 540, 2, 541, 98, 99, 542, 543, 544, 545, 16, 102, 21, 478, 276, 277, 278, 279, 34, 25, 280, 281, 282, 24, 283, 284, 65, 63, 285, 286, 287, 288, 56, 57, 289, 290, 291, 15, 292, 39, 40, 41, 42, 293, 294, 295, 296, 60, 61, 64, 297, 298, 299, 300, 301, 302, 303, 304, 305, 306, 307, 308, 309, 310, 311, 58, 59, 546, 547, 548, 549, 550, 313, 314, 315, 551, 552, 553, 554, 43, 555, 556, 557, 558, 559, 502, 503, 504, 505, 506, 507, 560, 561, 562, 563, 564, 565, 566, 567, 568, 569, 570, 571, 62, 572, 573, 574, 575, 576, 577, 578, 579, 580, 581, 582, 583, 786, 787, 788, 789, 790, 791, 792, 793, 794, 810, 811, 812, 813, 814, 815, 816, 817, 818, 819, 820, 821, 822, 823, 824, 825, 826] (by decide +kernel) (by decide +kernel)) (goodIn_sub (fun _ h => List.mem_append_left _ (List.mem_append_left _ (List.mem_append_right _ h))) (by decide +kernel))
set_option maxRecDepth 20000 in
theorem gL_law_L_count : GoodIn wsL_law (va_wsS RL 131 yL_count wsL_count) := goodIn_app (goodIn_of _ (by decide +kernel)) ggL_law_L_count
