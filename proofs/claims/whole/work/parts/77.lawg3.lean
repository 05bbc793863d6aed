set_option maxRecDepth 20000 in
theorem ggL_law_X5_date : GoodIn wsL_law wsX5_date := goodIn_r _ [319, 151, 79, 86, 165, 166, 167, 5, 168, 87, 81, 169, 170, 171, 320, 321, 322, 323, 84, 324, 325, 326, 327, 328, 329, 330, 228, 229, 230, 331, 332, 333, 334, 335, 336, 337, 795, 796, 797, 798, 799, 800, 801, 802, 803, 804, 805, 806, 807, 808, 809] (by decide +kernel) (by decide +kernel)
set_option maxRecDepth 20000 in
theorem gL_law_X5_date : GoodIn wsL_law (wsV RL 106 RX5 yX5_date wsX5_date) := goodIn_app (goodIn_of _ (by decide +kernel)) ggL_law_X5_date
set_option maxRecDepth 20000 in
theorem ggL_law_L_append : GoodIn wsL_law wsL_append := goodIn_ca (goodIn_ca (goodIn_r _ [340, 92, 93, 341, 342, 343, 2, 344, 98, 99, 100, 101, 33, 32, 786, 787, 788, 789, 790, 791, 792, 793, 794] (by decide +kernel) (by decide +kernel)) (goodIn_sub (fun _ h => List.mem_append_left _ (List.mem_append_left _ (List.mem_append_right _ h))) (by decide +kernel))) (goodIn_sub (fun _ h => List.mem_append_left _ (List.mem_append_right _ h)) (by decide +kernel))
set_option maxRecDepth 20000 in
theorem gL_law_L_append : GoodIn wsL_law (va_wsS RL 107 yL_append wsL_append) := goodIn_app (goodIn_of _ (by decide +kernel)) ggL_law_L_append
set_option maxRecDepth 20000 in
theorem ggL_law_X5_append : GoodIn wsL_law wsX5_append := goodIn_r _ [348, 151, 349, 82, 152, 153, 5, 154, 161, 162, 163, 164, 795, 796, 797, 798, 799, 800, 801, 802, 803, 804, 805, 806, 807, 808, 809] (by decide +kernel) (by decide +kernel)
set_option maxRecDepth 20000 in
theorem gL_law_X5_append : GoodIn wsL_law (wsV RL 109 RX5 yX5_append wsX5_append) := goodIn_app (goodIn_of _ (by decide +kernel)) ggL_law_X5_append
set_option maxRecDepth 20000 in
theorem ggL_law_X4_clearBuffer : GoodIn wsL_law wsX4_clearBuffer := goodIn_r _ [353, 33, 786, 787, 788, 789, 790, 791, 792, 793, 794] (by decide +kernel) (by decide +kernel)
set_option maxRecDepth 20000 in
theorem gL_law_X4_clearBuffer : GoodIn wsL_law (wsV RL 110 RX4 yX4_clearBuffer wsX4_clearBuffer) := goodIn_app (goodIn_of _ (by decide +kernel)) ggL_law_X4_clearBuffer
set_option maxRecDepth 20000 in
theorem ggL_law_X5_clearBuffer : GoodIn wsL_law wsX5_clearBuffer := goodIn_r _ [357, 151, 349, 795, 796, 797, 798, 799, 800, 801, 802, 803, 804, 805, 806, 807, 808, 809] (by decide +kernel) (by decide +kernel)
set_option maxRecDepth 20000 in
theorem gL_law_X5_clearBuffer : GoodIn wsL_law (wsV RL 113 RX5 yX5_clearBuffer wsX5_clearBuffer) := goodIn_app (goodIn_of _ (by decide +kernel)) ggL_law_X5_clearBuffer
set_option maxRecDepth 20000 in
theorem ggL_law_X4_firstError : GoodIn wsL_law wsX4_firstError := goodIn_r _ [361, 30, 32, 33, 362, 363, 364, 29, 365, 71, 72, 73, 366, 135, 136, 15, 137, 43, 367, 368, 369, 370, 371, 372, 373, 374, 375, 376, 377, 378, 379, 380, 381, 104, 2, 105, 382, 383, 384, 385, 386, 387, 388, 389, 215, 216, 390, 391, 392, 393, 394, 395, 396, 397, 398, 399, 400, 401, 402, 403, 404, 405, 406, 407, 143, 144, 145, 39, 40, 41, 42, 408, 409, 410, 411, 412, 413, 414, 415, 786, 787, 788, 789, 790, 791, 792, 793, 794, 827, 828, 829, 830, 831, 832, 833, 834, 810, 811, 812, 813, 814] (by decide +kernel) (by decide +kernel)
set_option maxRecDepth 20000 in
theorem gL_law_X4_firstError : GoodIn wsL_law (wsV RL 114 RX4 yX4_firstError wsX4_firstError) := goodIn_app (goodIn_of _ (by decide +kernel)) ggL_law_X4_firstError
set_option maxRecDepth 20000 in
theorem ggL_law_X5_firstError : GoodIn wsL_law wsX5_firstError := goodIn_r _ [419, 151, 420, 421, 349, 422, 423, 424, 5, 425, 426, 427, 428, 429, 430, 83, 82, 431, 432, 433, 434, 152, 153, 154, 435, 436, 437, 438, 439, 440, 441, 442, 443, 444, 445, 446, 447, 448, 449, 450, 451, 795, 796, 797, 798, 799, 800, 801, 802, 803, 804, 805, 806, 807, 808, 809] (by decide +kernel) (by decide +kernel)
set_option maxRecDepth 20000 in
theorem gL_law_X5_firstError : GoodIn wsL_law (wsV RL 117 RX5 yX5_firstError wsX5_firstError) := goodIn_app (goodIn_of _ (by decide +kernel)) ggL_law_X5_firstError
set_option maxRecDepth 20000 in
theorem ggL_law_L_books : GoodIn wsL_law wsL_books := goodIn_ca (goodIn_ca (goodIn_r _ [454, 92, 93, 455, 456, 457, 2, 458, 98, 99, 100, 101, 30, 32, 33, 16, 102, 459, 460, 362, 363, 364, 29, 365, 71, 72, 73, 366, 135, 136, 15, 137, 43, 367, 368, 369, 370, 371, 372, 373, 374, 375, 376, 377, 378, 379, 380, 381, 104, 105, 382, 383, 384, 385, 386, 387, 388, 389, 215, 216, 390, 391, 392, 393, 394, 395, 396, 397, 398, 399, 400, 401, 402, 403, 404, 405, 406, 407, 143, 144, 145, 39, 40, 41, 42, 408, 409, 410, 411, 412, 413, 414, 415, 461, 462, 463, 464, 118, 119, 120, 121, 21, 34, 122, 123, 124, 20, 125, 50, 49, 126, 127, 128, 129, 130, 131, 132, 133, 134, 138, 139, 140, 141, 142, 465, 466, 786, 787, 788, 789, 790, 791, 792, 793, 794, 810, 811, 812, 813, 814, 827, 828, 829, 830, 831, 832, 833, 834, 815, 816] (by decide +kernel) (by decide +kernel)) (goodIn_sub (fun _ h => List.mem_append_left _ (List.mem_append_left _ (List.mem_append_right _ h))) (by decide +kernel))) (goodIn_sub (fun _ h => List.mem_append_left _ (List.mem_append_right _ h)) (by decide +kernel))
set_option maxRecDepth 20000 in
theorem gL_law_L_books : GoodIn wsL_law (va_wsS RL 118 yL_books wsL_books) := goodIn_app (goodIn_of _ (by decide +kernel)) ggL_law_L_books
