set_option maxRecDepth 20000 in
theorem ggL_law_X2_mirrored : GoodIn wsL_law wsX2_mirrored := goodIn_r _ [378, 61, 60, 104, 105, 5, 106, 107, 108, 109, 110, 111, 207, 208, 209, 210, 99, 211, 212, 57, 56, 55, 213, 214, 215, 216, 54, 217, 218, 219, 220, 221, 222, 223, 224, 225, 226, 100, 101, 102, 103, 227, 228, 229, 230, 231, 232, 233, 234, 235, 236, 237, 238, 432, 433, 434, 435, 436, 437, 438, 439, 440, 441, 442, 443, 444, 445, 446] (by decide +kernel) (by decide +kernel)
set_option maxRecDepth 20000 in
theorem gL_law_X2_mirrored : GoodIn wsL_law (wsV RL 107 RX2 yX2_mirrored wsX2_mirrored) := goodIn_app (goodIn_of _ (by decide +kernel)) ggL_law_X2_mirrored
set_option maxRecDepth 20000 in
theorem ggL_law_L_joint : GoodIn wsL_law wsL_joint := goodIn_ca (goodIn_r _ [381, 382, 383, 384, 385, 2, 386, 387, 388, 20, 31, 17, 19, 165, 166, 167, 23, 168, 40, 41, 42, 39, 38, 169, 170, 171, 172, 37, 36, 173, 25, 26, 27, 174, 29, 30, 175, 176, 177, 178, 46, 44, 47, 43, 83, 84, 85, 86, 179, 180, 181, 182, 183, 184, 185, 45, 186, 187, 188, 189, 48, 49, 190, 191, 192, 193, 194, 195, 196, 197, 265, 266, 267, 268, 269, 270, 271, 272, 247, 248, 249, 130, 131, 132, 133, 134, 135, 136, 137, 428, 429, 430, 431, 447, 448, 449, 450, 451, 452, 453, 454, 455, 456, 457, 458, 459, 460] (by decide +kernel) (by decide +kernel)) (goodIn_sub (fun _ h => List.mem_append_right _ h) (by decide +kernel))
set_option maxRecDepth 20000 in
theorem gL_law_L_joint : GoodIn wsL_law (va_wsS RL 108 yL_joint wsL_joint) := goodIn_app (goodIn_of _ (by decide +kernel)) ggL_law_L_joint
set_option maxRecDepth 20000 in
theorem ggL_law_X2_joint : GoodIn wsL_law wsX2_joint := goodIn_r _ [392, 393, 58, 59, 107, 108, 109, 5, 110, 111, 290, 291, 292, 293, 207, 208, 209, 210, 99, 211, 212, 57, 56, 55, 60, 61, 213, 214, 215, 216, 54, 217, 218, 219, 220, 221, 222, 223, 224, 225, 226, 100, 101, 102, 103, 104, 105, 106, 227, 228, 229, 230, 231, 232, 233, 254, 255, 256, 257, 432, 433, 434, 435, 436, 437, 438, 439, 440, 441, 442, 443, 444, 445, 446] (by decide +kernel) (by decide +kernel)
set_option maxRecDepth 20000 in
theorem gL_law_X2_joint : GoodIn wsL_law (wsV RL 111 RX2 yX2_joint wsX2_joint) := goodIn_app (goodIn_of _ (by decide +kernel)) ggL_law_X2_joint
