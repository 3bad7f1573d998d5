set_option maxRecDepth 20000 in
theorem ggL_law_L_leads : GoodIn wsL_law wsL_leads := goodIn_ca (goodIn_r _ [148, 65, 149, 150, 151, 2, 152, 70, 71, 31, 72, 73, 74, 23, 75, 41, 42, 153, 92, 93, 94, 44, 83, 84, 85, 86, 43, 428, 429, 430, 431, 447, 448, 449, 450, 451, 452, 453, 454, 455, 456, 457, 458, 459, 460] (by decide +kernel) (by decide +kernel)) (goodIn_sub (fun _ h => List.mem_append_left _ (List.mem_append_right _ h)) (by decide +kernel))
set_option maxRecDepth 20000 in
theorem gL_law_L_leads : GoodIn wsL_law (va_wsS RL 82 yL_leads wsL_leads) := goodIn_app (goodIn_of _ (by decide +kernel)) ggL_law_L_leads
set_option maxRecDepth 20000 in
theorem ggL_law_X2_leads : GoodIn wsL_law wsX2_leads := goodIn_r _ [157, 54, 100, 101, 102, 5, 103, 60, 61, 104, 105, 106, 107, 108, 109, 110, 111, 432, 433, 434, 435, 436, 437, 438, 439, 440, 441, 442, 443, 444, 445, 446] (by decide +kernel) (by decide +kernel)
set_option maxRecDepth 20000 in
theorem gL_law_X2_leads : GoodIn wsL_law (wsV RL 85 RX2 yX2_leads wsX2_leads) := goodIn_app (goodIn_of _ (by decide +kernel)) ggL_law_X2_leads
set_option maxRecDepth 20000 in
theorem ggL_law_L_warmth : GoodIn wsL_law wsL_warmth := goodIn_ca (goodIn_r _ [160, 65, 161, 162, 163, 2, 164, 70, 71, 31, 72, 73, 74, 23, 75, 41, 42, 165, 166, 167, 168, 40, 39, 38, 169, 170, 171, 172, 37, 36, 173, 25, 26, 27, 174, 29, 30, 175, 176, 177, 178, 46, 44, 47, 43, 83, 84, 85, 86, 179, 180, 181, 182, 183, 184, 185, 45, 186, 187, 188, 189, 48, 49, 190, 191, 192, 193, 194, 195, 196, 197, 198, 199, 200, 201, 202, 428, 429, 430, 431, 447, 448, 449, 450, 451, 452, 453, 454, 455, 456, 457, 458, 459, 460] (by decide +kernel) (by decide +kernel)) (goodIn_sub (fun _ h => List.mem_append_left _ (List.mem_append_right _ h)) (by decide +kernel))
set_option maxRecDepth 20000 in
theorem gL_law_L_warmth : GoodIn wsL_law (va_wsS RL 86 yL_warmth wsL_warmth) := goodIn_app (goodIn_of _ (by decide +kernel)) ggL_law_L_warmth
