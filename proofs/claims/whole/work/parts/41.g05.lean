set_option maxRecDepth 20000 in
theorem ggL_law_X2_init : GoodIn wsL_law wsX2_init := goodIn_r _ [52, 53, 15, 16, 18, 54, 55, 56, 57, 6, 58, 59, 60, 61, 432, 433, 434, 435, 436, 437, 438, 439, 440, 441, 442, 443, 444, 445, 446] (by decide +kernel) (by decide +kernel)
set_option maxRecDepth 20000 in
theorem gL_law_X2_init : GoodIn wsL_law (wsX2_init) := ggL_law_X2_init
set_option maxRecDepth 20000 in
theorem ggL_law_L_box : GoodIn wsL_law wsL_box := goodIn_ca (goodIn_r _ [64, 65, 66, 67, 68, 2, 69, 70, 71, 31, 72, 73, 74, 23, 75, 41, 42, 76, 77, 78, 79, 80, 81, 82, 44, 40, 83, 84, 85, 86, 43, 87, 88, 89, 90, 91, 92, 93, 94, 428, 429, 430, 431, 447, 448, 449, 450, 451, 452, 453, 454, 455, 456, 457, 458, 459, 460] (by decide +kernel) (by decide +kernel)) (goodIn_sub (fun _ h => List.mem_append_left _ (List.mem_append_right _ h)) (by decide +kernel))
set_option maxRecDepth 20000 in
theorem gL_law_L_box : GoodIn wsL_law (va_wsS RL 71 yL_box wsL_box) := goodIn_app (goodIn_of _ (by decide +kernel)) ggL_law_L_box
set_option maxRecDepth 20000 in
theorem ggL_law_X2_box : GoodIn wsL_law wsX2_box := goodIn_r _ [98, 99, 54, 100, 101, 102, 5, 103, 60, 61, 104, 105, 106, 107, 108, 109, 110, 111, 432, 433, 434, 435, 436, 437, 438, 439, 440, 441, 442, 443, 444, 445, 446] (by decide +kernel) (by decide +kernel)
set_option maxRecDepth 20000 in
theorem gL_law_X2_box : GoodIn wsL_law (wsV RL 74 RX2 yX2_box wsX2_box) := goodIn_app (goodIn_of _ (by decide +kernel)) ggL_law_X2_box
