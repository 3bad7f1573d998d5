set_option maxRecDepth 20000 in
theorem ggL_law_X2_differs : GoodIn wsL_law wsX2_differs := goodIn_r _ [419, 393, 58, 104, 105, 5, 106, 107, 108, 109, 110, 111, 290, 291, 292, 293, 207, 208, 209, 210, 99, 211, 212, 57, 56, 55, 60, 61, 213, 214, 215, 216, 54, 217, 218, 219, 220, 221, 222, 223, 224, 225, 226, 100, 101, 102, 103, 227, 228, 229, 230, 231, 232, 233, 254, 255, 256, 257, 432, 433, 434, 435, 436, 437, 438, 439, 440, 441, 442, 443, 444, 445, 446] (by decide +kernel) (by decide +kernel)
set_option maxRecDepth 20000 in
theorem gL_law_X2_differs : GoodIn wsL_law (wsV RL 117 RX2 yX2_differs wsX2_differs) := goodIn_app (goodIn_of _ (by decide +kernel)) ggL_law_X2_differs
set_option maxRecDepth 20000 in
theorem ggL_law_X1_sum : GoodIn wsL_law wsX1_sum := goodIn_r _ [423, 20, 17, 19, 428, 429, 430, 431] (by decide +kernel) (by decide +kernel)
set_option maxRecDepth 20000 in
theorem gL_law_X1_sum : GoodIn wsL_law (wsV RL 118 RX1 yX1_sum wsX1_sum) := goodIn_app (goodIn_of _ (by decide +kernel)) ggL_law_X1_sum
set_option maxRecDepth 20000 in
theorem ggL_law_X2_sum : GoodIn wsL_law wsX2_sum := goodIn_r _ [427, 111, 393, 58, 59, 432, 433, 434, 435, 436, 437, 438, 439, 440, 441, 442, 443, 444, 445, 446] (by decide +kernel) (by decide +kernel)
set_option maxRecDepth 20000 in
theorem gL_law_X2_sum : GoodIn wsL_law (wsV RL 122 RX2 yX2_sum wsX2_sum) := goodIn_app (goodIn_of _ (by decide +kernel)) ggL_law_X2_sum
