set_option maxRecDepth 20000 in
theorem ggL_law_X2_thrown : GoodIn wsL_law wsX2_thrown := goodIn_r _ [115, 111, 432, 433, 434, 435, 436, 437, 438, 439, 440, 441, 442, 443, 444, 445, 446] (by decide +kernel) (by decide +kernel)
set_option maxRecDepth 20000 in
theorem gL_law_X2_thrown : GoodIn wsL_law (wsV RL 75 RX2 yX2_thrown wsX2_thrown) := goodIn_app (goodIn_of _ (by decide +kernel)) ggL_law_X2_thrown
set_option maxRecDepth 20000 in
theorem ggL_law_L_side : GoodIn wsL_law wsL_side := goodIn_ca (goodIn_r _ [118, 65, 119, 120, 121, 2, 122, 70, 71, 31, 123, 124, 125, 76, 77, 78, 126, 127, 128, 23, 129, 37, 36, 44, 45, 40, 130, 131, 132, 133, 41, 42, 134, 135, 136, 137, 83, 84, 85, 86, 43, 138, 139, 140, 141, 428, 429, 430, 431, 447, 448, 449, 450, 451, 452, 453, 454, 455, 456, 457, 458, 459, 460] (by decide +kernel) (by decide +kernel)) (goodIn_sub (fun _ h => List.mem_append_left _ (List.mem_append_right _ h)) (by decide +kernel))
set_option maxRecDepth 20000 in
theorem gL_law_L_side : GoodIn wsL_law (va_wsS RL 78 yL_side wsL_side) := goodIn_app (goodIn_of _ (by decide +kernel)) ggL_law_L_side
set_option maxRecDepth 20000 in
theorem ggL_law_X2_side : GoodIn wsL_law wsX2_side := goodIn_r _ [145, 99, 57, 56, 104, 105, 5, 106, 107, 108, 109, 110, 111, 432, 433, 434, 435, 436, 437, 438, 439, 440, 441, 442, 443, 444, 445, 446] (by decide +kernel) (by decide +kernel)
set_option maxRecDepth 20000 in
theorem gL_law_X2_side : GoodIn wsL_law (wsV RL 81 RX2 yX2_side wsX2_side) := goodIn_app (goodIn_of _ (by decide +kernel)) ggL_law_X2_side
