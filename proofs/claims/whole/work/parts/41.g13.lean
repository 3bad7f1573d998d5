set_option maxRecDepth 20000 in
theorem ggL_law_L_length : GoodIn wsL_law wsL_length := goodIn_ca (goodIn_r _ [396, 65, 397, 398, 399, 2, 400, 70, 71, 19, 401, 402, 403, 404, 20, 76, 77, 78, 428, 429, 430, 431] (by decide +kernel) (by decide +kernel)) (goodIn_sub (fun _ h => List.mem_append_left _ (List.mem_append_right _ h)) (by decide +kernel))
set_option maxRecDepth 20000 in
theorem gL_law_L_length : GoodIn wsL_law (va_wsS RL 112 yL_length wsL_length) := goodIn_app (goodIn_of _ (by decide +kernel)) ggL_law_L_length
set_option maxRecDepth 20000 in
theorem ggL_law_X2_length : GoodIn wsL_law wsX2_length := goodIn_r _ [408, 393, 59, 104, 105, 5, 106, 107, 108, 109, 110, 111, 432, 433, 434, 435, 436, 437, 438, 439, 440, 441, 442, 443, 444, 445, 446] (by decide +kernel) (by decide +kernel)
set_option maxRecDepth 20000 in
theorem gL_law_X2_length : GoodIn wsL_law (wsV RL 114 RX2 yX2_length wsX2_length) := goodIn_app (goodIn_of _ (by decide +kernel)) ggL_law_X2_length
set_option maxRecDepth 20000 in
theorem ggL_law_L_differs : GoodIn wsL_law wsL_differs := goodIn_ca (goodIn_r _ [411, 65, 412, 413, 414, 2, 415, 70, 71, 31, 17, 401, 402, 403, 404, 20, 76, 77, 78, 165, 166, 167, 23, 168, 40, 41, 42, 39, 38, 169, 170, 171, 172, 37, 36, 173, 25, 26, 27, 174, 29, 30, 175, 176, 177, 178, 46, 44, 47, 43, 83, 84, 85, 86, 179, 180, 181, 182, 183, 184, 185, 45, 186, 187, 188, 189, 48, 49, 190, 191, 192, 193, 194, 195, 196, 197, 265, 266, 267, 268, 269, 270, 271, 272, 247, 248, 249, 130, 131, 132, 133, 134, 135, 136, 137, 428, 429, 430, 431, 447, 448, 449, 450, 451, 452, 453, 454, 455, 456, 457, 458, 459, 460] (by decide +kernel) (by decide +kernel)) (goodIn_sub (fun _ h => List.mem_append_left _ (List.mem_append_right _ h)) (by decide +kernel))
set_option maxRecDepth 20000 in
theorem gL_law_L_differs : GoodIn wsL_law (va_wsS RL 115 yL_differs wsL_differs) := goodIn_app (goodIn_of _ (by decide +kernel)) ggL_law_L_differs
