set_option maxRecDepth 20000 in
theorem ggL_law_X2_least : GoodIn wsL_law wsX2_least := goodIn_r _ [314, 238, 104, 105, 5, 106, 107, 108, 109, 110, 111, 315, 316, 317, 318, 60, 61, 207, 208, 209, 210, 99, 211, 212, 57, 56, 55, 213, 214, 215, 216, 54, 217, 218, 219, 220, 221, 222, 223, 224, 225, 226, 100, 101, 102, 103, 227, 228, 229, 230, 231, 232, 233, 319, 320, 321, 322, 234, 235, 236, 237, 432, 433, 434, 435, 436, 437, 438, 439, 440, 441, 442, 443, 444, 445, 446] (by decide +kernel) (by decide +kernel)
set_option maxRecDepth 20000 in
theorem gL_law_X2_least : GoodIn wsL_law (wsV RL 98 RX2 yX2_least wsX2_least) := goodIn_app (goodIn_of _ (by decide +kernel)) ggL_law_X2_least
set_option maxRecDepth 20000 in
theorem ggL_law_L_factor : GoodIn wsL_law wsL_factor := goodIn_ca (goodIn_r _ [325, 65, 326, 327, 328, 2, 329, 70, 71, 31, 123, 124, 125, 76, 77, 78, 165, 166, 167, 23, 168, 40, 41, 42, 39, 38, 169, 170, 171, 172, 37, 36, 173, 25, 26, 27, 174, 29, 30, 175, 176, 177, 178, 46, 44, 47, 43, 83, 84, 85, 86, 179, 180, 181, 182, 183, 184, 185, 45, 186, 187, 188, 189, 48, 49, 190, 191, 192, 193, 194, 195, 196, 197, 302, 303, 304, 305, 130, 131, 132, 133, 134, 135, 136, 137, 306, 307, 308, 309, 330, 331, 332, 333, 334, 335, 336, 337, 338, 339, 340, 428, 429, 430, 431, 447, 448, 449, 450, 451, 452, 453, 454, 455, 456, 457, 458, 459, 460] (by decide +kernel) (by decide +kernel)) (goodIn_sub (fun _ h => List.mem_append_left _ (List.mem_append_right _ h)) (by decide +kernel))
set_option maxRecDepth 20000 in
theorem gL_law_L_factor : GoodIn wsL_law (va_wsS RL 99 yL_factor wsL_factor) := goodIn_app (goodIn_of _ (by decide +kernel)) ggL_law_L_factor
set_option maxRecDepth 20000 in
theorem ggL_law_X2_factor : GoodIn wsL_law wsX2_factor := goodIn_r _ [344, 211, 212, 104, 105, 5, 106, 107, 108, 109, 110, 111, 315, 316, 317, 318, 60, 61, 238, 207, 208, 209, 210, 99, 57, 56, 55, 213, 214, 215, 216, 54, 217, 218, 219, 220, 221, 222, 223, 224, 225, 226, 100, 101, 102, 103, 227, 228, 229, 230, 231, 232, 233, 319, 320, 321, 322, 234, 235, 236, 237, 432, 433, 434, 435, 436, 437, 438, 439, 440, 441, 442, 443, 444, 445, 446] (by decide +kernel) (by decide +kernel)
set_option maxRecDepth 20000 in
theorem gL_law_X2_factor : GoodIn wsL_law (wsV RL 101 RX2 yX2_factor wsX2_factor) := goodIn_app (goodIn_of _ (by decide +kernel)) ggL_law_X2_factor
