set_option maxRecDepth 100000 in
set_option maxHeartbeats 4000000 in
theorem gL_law_X8_undo : GoodIn wsL_law (wsV RL 163 RX8 yX8_undo wsX8_undo) := goodIn_app (goodIn_g _ [5, 885, 0, 0] [3, 0, 1, 2] rfl (by decide +kernel) (by decide +kernel)) ggL_law_X8_undo
set_option maxRecDepth 100000 in
set_option maxHeartbeats 4000000 in
theorem ggL_law_X7_alphabetSize : GoodIn wsL_law wsX7_alphabetSize := goodIn_g _ [18, 879, 576, 0, 0, 0, 0, 0, 0, 0, 0, 0, 0, 27, 0, 0, 0, 0, 0, 0, 0, 0, 0, 0, 0, 0, 0, 21, 0, 0, 0, 0, 0, 0, 0] [1, 0, 2, 3, 4, 5, 6, 7, 8, 9, 10, 11, 12, 13, 14, 15, 16, 17, 18, 19, 20, 21, 22, 23, 24, 25, 26, 27, 28, 29, 30, 31, 32, 33, 34] rfl (by decide +kernel) (by decide +kernel)
set_option maxRecDepth 100000 in
set_option maxHeartbeats 4000000 in
theorem gL_law_X7_alphabetSize : GoodIn wsL_law (wsV RL 164 RX7 yX7_alphabetSize wsX7_alphabetSize) := goodIn_app (goodIn_g _ [2, 892, 0, 0] [3, 0, 1, 2] rfl (by decide +kernel) (by decide +kernel)) ggL_law_X7_alphabetSize
set_option maxRecDepth 100000 in
set_option maxHeartbeats 4000000 in
theorem ggL_law_X8_alphabetSize : GoodIn wsL_law wsX8_alphabetSize := goodIn_g _ [5, 124, 38, 4, 0, 0, 0, 724, 583, 0, 0, 0, 0, 0, 0, 0, 0, 0, 0, 0, 0, 0, 0, 0, 0, 0, 0, 0, 0, 0, 0, 0, 0, 0, 0] [5, 1, 7, 2, 3, 4, 6, 0, 8, 9, 10, 11, 12, 13, 14, 15, 16, 17, 18, 19, 20, 21, 22, 23, 24, 25, 26, 27, 28, 29, 30, 31, 32, 33, 34] rfl (by decide +kernel) (by decide +kernel)
set_option maxRecDepth 100000 in
set_option maxHeartbeats 4000000 in
theorem gL_law_X8_alphabetSize : GoodIn wsL_law (wsV RL 167 RX8 yX8_alphabetSize wsX8_alphabetSize) := goodIn_app (goodIn_g _ [5, 893, 0, 0] [3, 0, 1, 2] rfl (by decide +kernel) (by decide +kernel)) ggL_law_X8_alphabetSize
set_option maxRecDepth 100000 in
set_option maxHeartbeats 4000000 in
theorem ggL_law_X7_greatestWidth : GoodIn wsL_law wsX7_greatestWidth := goodIn_g _ [18, 887, 568, 0, 0, 0, 0, 0, 0, 0, 0, 0, 0, 27, 0, 0, 0, 0, 0, 0, 0, 0, 0, 0, 0, 0, 0, 21, 0, 0, 0, 0, 0, 0, 0] [1, 0, 2, 3, 4, 5, 6, 7, 8, 9, 10, 11, 12, 13, 14, 15, 16, 17, 18, 19, 20, 21, 22, 23, 24, 25, 26, 27, 28, 29, 30, 31, 32, 33, 34] rfl (by decide +kernel) (by decide +kernel)
set_option maxRecDepth 100000 in
set_option maxHeartbeats 4000000 in
theorem gL_law_X7_greatestWidth : GoodIn wsL_law (wsV RL 168 RX7 yX7_greatestWidth wsX7_greatestWidth) := goodIn_app (goodIn_g _ [2, 900, 0, 0] [3, 0, 1, 2] rfl (by decide +kernel) (by decide +kernel)) ggL_law_X7_greatestWidth
set_option maxRecDepth 100000 in
set_option maxHeartbeats 4000000 in
theorem ggL_law_X8_greatestWidth : GoodIn wsL_law wsX8_greatestWidth := goodIn_g _ [5, 124, 38, 4, 0, 0, 0, 732, 575, 0, 0, 0, 0, 0, 0, 0, 0, 0, 0, 0, 0, 0, 0, 0, 0, 0, 0, 0, 0, 0, 0, 0, 0, 0, 0] [5, 1, 7, 2, 3, 4, 6, 0, 8, 9, 10, 11, 12, 13, 14, 15, 16, 17, 18, 19, 20, 21, 22, 23, 24, 25, 26, 27, 28, 29, 30, 31, 32, 33, 34] rfl (by decide +kernel) (by decide +kernel)
set_option maxRecDepth 100000 in
set_option maxHeartbeats 4000000 in
theorem gL_law_X8_greatestWidth : GoodIn wsL_law (wsV RL 171 RX8 yX8_greatestWidth wsX8_greatestWidth) := goodIn_app (goodIn_g _ [5, 901, 0, 0] [3, 0, 1, 2] rfl (by decide +kernel) (by decide +kernel)) ggL_law_X8_greatestWidth
set_option maxRecDepth 100000 in
set_option maxHeartbeats 4000000 in
theorem ggL_law_X7_policy : GoodIn wsL_law wsX7_policy := goodIn_g _ [18, 895, 560, 0, 0, 0, 0, 0, 0, 0, 0, 0, 0, 27, 0, 0, 0, 0, 0, 0, 0, 0, 0, 0, 0, 0, 0] [1, 0, 2, 3, 4, 5, 6, 7, 8, 9, 10, 11, 12, 13, 14, 15, 16, 17, 18, 19, 20, 21, 22, 23, 24, 25, 26] rfl (by decide +kernel) (by decide +kernel)
set_option maxRecDepth 100000 in
set_option maxHeartbeats 4000000 in
theorem gL_law_X7_policy : GoodIn wsL_law (wsV RL 172 RX7 yX7_policy wsX7_policy) := goodIn_app (goodIn_g _ [2, 908, 0, 0] [3, 0, 1, 2] rfl (by decide +kernel) (by decide +kernel)) ggL_law_X7_policy
set_option maxRecDepth 100000 in
set_option maxHeartbeats 4000000 in
theorem ggL_law_X8_policy : GoodIn wsL_law wsX8_policy := goodIn_g _ [5, 124, 38, 4, 0, 0, 0, 740, 567, 0, 0, 0, 0, 0, 0, 0, 0, 0, 0, 0, 0, 0, 0, 0, 0, 0, 0, 0, 0, 0, 0, 0, 0, 0, 0] [5, 1, 7, 2, 3, 4, 6, 0, 8, 9, 10, 11, 12, 13, 14, 15, 16, 17, 18, 19, 20, 21, 22, 23, 24, 25, 26, 27, 28, 29, 30, 31, 32, 33, 34] rfl (by decide +kernel) (by decide +kernel)
set_option maxRecDepth 100000 in
set_option maxHeartbeats 4000000 in
theorem gL_law_X8_policy : GoodIn wsL_law (wsV RL 175 RX8 yX8_policy wsX8_policy) := goodIn_app (goodIn_g _ [5, 909, 0, 0] [3, 0, 1, 2] rfl (by decide +kernel) (by decide +kernel)) ggL_law_X8_policy
set_option maxRecDepth 100000 in
set_option maxHeartbeats 4000000 in
theorem ggL_law_X7_limit : GoodIn wsL_law wsX7_limit := goodIn_g _ [18, 903, 552, 0, 0, 0, 0, 0, 0, 0, 0, 0, 0, 27, 0, 0, 0, 0, 0, 0, 0, 0, 0, 0, 0, 0, 0] [1, 0, 2, 3, 4, 5, 6, 7, 8, 9, 10, 11, 12, 13, 14, 15, 16, 17, 18, 19, 20, 21, 22, 23, 24, 25, 26] rfl (by decide +kernel) (by decide +kernel)
set_option maxRecDepth 100000 in
set_option maxHeartbeats 4000000 in
theorem gL_law_X7_limit : GoodIn wsL_law (wsV RL 176 RX7 yX7_limit wsX7_limit) := goodIn_app (goodIn_g _ [2, 916, 0, 0] [3, 0, 1, 2] rfl (by decide +kernel) (by decide +kernel)) ggL_law_X7_limit
set_option maxRecDepth 100000 in
set_option maxHeartbeats 4000000 in
theorem ggL_law_X8_limit : GoodIn wsL_law wsX8_limit := goodIn_g _ [5, 124, 38, 4, 0, 0, 0, 748, 559, 0, 0, 0, 0, 0, 0, 0, 0, 0, 0, 0, 0, 0, 0, 0, 0, 0, 0, 0, 0, 0, 0, 0, 0, 0, 0] [5, 1, 7, 2, 3, 4, 6, 0, 8, 9, 10, 11, 12, 13, 14, 15, 16, 17, 18, 19, 20, 21, 22, 23, 24, 25, 26, 27, 28, 29, 30, 31, 32, 33, 34] rfl (by decide +kernel) (by decide +kernel)
set_option maxRecDepth 100000 in
set_option maxHeartbeats 4000000 in
theorem gL_law_X8_limit : GoodIn wsL_law (wsV RL 179 RX8 yX8_limit wsX8_limit) := goodIn_app (goodIn_g _ [5, 917, 0, 0] [3, 0, 1, 2] rfl (by decide +kernel) (by decide +kernel)) ggL_law_X8_limit
set_option maxRecDepth 100000 in
set_option maxHeartbeats 4000000 in
theorem ggL_law_X7_plainWidth : GoodIn wsL_law wsX7_plainWidth := goodIn_g _ [2, 15, 27, 49, 265, 0, 9, 0, 0, 554, 0, 543, 0, 0, 0, 0, 0, 0, 0, 0, 0, 0, 27, 0, 0, 0, 0, 0, 0, 0, 0, 0, 0, 0, 0, 0, 21, 0, 0, 0, 0, 0, 0, 0] [9, 1, 5, 7, 8, 10, 3, 4, 6, 0, 2, 11, 12, 13, 14, 15, 16, 17, 18, 19, 20, 21, 22, 23, 24, 25, 26, 27, 28, 29, 30, 31, 32, 33, 34, 35, 36, 37, 38, 39, 40, 41, 42, 43] rfl (by decide +kernel) (by decide +kernel)
set_option maxRecDepth 100000 in
set_option maxHeartbeats 4000000 in
theorem gL_law_X7_plainWidth : GoodIn wsL_law (wsV RL 180 RX7 yX7_plainWidth wsX7_plainWidth) := goodIn_app (goodIn_g _ [2, 924, 0, 0] [3, 0, 1, 2] rfl (by decide +kernel) (by decide +kernel)) ggL_law_X7_plainWidth
set_option maxRecDepth 100000 in
set_option maxHeartbeats 4000000 in
theorem ggL_law_X8_plainWidth : GoodIn wsL_law wsX8_plainWidth := goodIn_g _ [5, 124, 38, 4, 0, 0, 0, 356, 0, 0, 48, 0, 0, 0, 346, 550, 0, 0, 0, 0, 0, 0, 0, 0, 0, 0, 0, 0, 0, 0, 0, 0, 0, 0, 0, 0, 0, 0, 0, 0, 0, 0] [4, 6, 14, 10, 11, 12, 13, 7, 8, 9, 1, 2, 3, 5, 0, 15, 16, 17, 18, 19, 20, 21, 22, 23, 24, 25, 26, 27, 28, 29, 30, 31, 32, 33, 34, 35, 36, 37, 38, 39, 40, 41] rfl (by decide +kernel) (by decide +kernel)
set_option maxRecDepth 100000 in
set_option maxHeartbeats 4000000 in
theorem gL_law_X8_plainWidth : GoodIn wsL_law (wsV RL 183 RX8 yX8_plainWidth wsX8_plainWidth) := goodIn_app (goodIn_g _ [5, 926, 0, 0] [3, 0, 1, 2] rfl (by decide +kernel) (by decide +kernel)) ggL_law_X8_plainWidth
set_option maxRecDepth 100000 in
set_option maxHeartbeats 4000000 in
theorem ggL_law_X7_clearCode : GoodIn wsL_law wsX7_clearCode := goodIn_g _ [18, 920, 535, 0, 0, 0, 0, 0, 0, 0, 0, 0, 0, 27, 0, 0, 0, 0, 0, 0, 0, 0, 0, 0, 0, 0, 0, 21, 0, 0, 0, 0, 0, 0, 0] [1, 0, 2, 3, 4, 5, 6, 7, 8, 9, 10, 11, 12, 13, 14, 15, 16, 17, 18, 19, 20, 21, 22, 23, 24, 25, 26, 27, 28, 29, 30, 31, 32, 33, 34] rfl (by decide +kernel) (by decide +kernel)
set_option maxRecDepth 100000 in
set_option maxHeartbeats 4000000 in
theorem gL_law_X7_clearCode : GoodIn wsL_law (wsV RL 184 RX7 yX7_clearCode wsX7_clearCode) := goodIn_app (goodIn_g _ [2, 933, 0, 0] [3, 0, 1, 2] rfl (by decide +kernel) (by decide +kernel)) ggL_law_X7_clearCode
set_option maxRecDepth 100000 in
set_option maxHeartbeats 4000000 in
theorem ggL_law_X8_clearCode : GoodIn wsL_law wsX8_clearCode := goodIn_g _ [5, 124, 38, 4, 0, 0, 0, 344, 0, 0, 0, 417, 542, 0, 0, 0, 0, 0, 0, 0, 0, 0, 0, 0, 0, 0, 0, 0, 0, 0, 0, 0, 0, 0, 0, 0, 0, 0, 0] [4, 6, 11, 7, 8, 9, 10, 1, 2, 3, 5, 0, 12, 13, 14, 15, 16, 17, 18, 19, 20, 21, 22, 23, 24, 25, 26, 27, 28, 29, 30, 31, 32, 33, 34, 35, 36, 37, 38] rfl (by decide +kernel) (by decide +kernel)
set_option maxRecDepth 100000 in
set_option maxHeartbeats 4000000 in
theorem gL_law_X8_clearCode : GoodIn wsL_law (wsV RL 187 RX8 yX8_clearCode wsX8_clearCode) := goodIn_app (goodIn_g _ [5, 934, 0, 0] [3, 0, 1, 2] rfl (by decide +kernel) (by decide +kernel)) ggL_law_X8_clearCode
set_option maxRecDepth 100000 in
set_option maxHeartbeats 4000000 in
theorem ggL_law_X7_codeCount : GoodIn wsL_law wsX7_codeCount := goodIn_g _ [18, 928, 527, 0, 0, 0, 0, 0, 0, 0, 0, 0, 0, 27, 0, 0, 0, 0, 0, 0, 0, 0, 0, 0, 0, 0, 0, 21, 0, 0, 0, 0, 0, 0, 0] [1, 0, 2, 3, 4, 5, 6, 7, 8, 9, 10, 11, 12, 13, 14, 15, 16, 17, 18, 19, 20, 21, 22, 23, 24, 25, 26, 27, 28, 29, 30, 31, 32, 33, 34] rfl (by decide +kernel) (by decide +kernel)
set_option maxRecDepth 100000 in
set_option maxHeartbeats 4000000 in
theorem gL_law_X7_codeCount : GoodIn wsL_law (wsV RL 188 RX7 yX7_codeCount wsX7_codeCount) := goodIn_app (goodIn_g _ [2, 941, 0, 0] [3, 0, 1, 2] rfl (by decide +kernel) (by decide +kernel)) ggL_law_X7_codeCount
set_option maxRecDepth 100000 in
set_option maxHeartbeats 4000000 in
theorem ggL_law_X8_codeCount : GoodIn wsL_law wsX8_codeCount := goodIn_g _ [5, 124, 38, 4, 0, 0, 0, 773, 534, 0, 0, 0, 0, 0, 0, 0, 0, 0, 0, 0, 0, 0, 0, 0, 0, 0, 0, 0, 0, 0, 0, 0, 0, 0, 0] [5, 1, 7, 2, 3, 4, 6, 0, 8, 9, 10, 11, 12, 13, 14, 15, 16, 17, 18, 19, 20, 21, 22, 23, 24, 25, 26, 27, 28, 29, 30, 31, 32, 33, 34] rfl (by decide +kernel) (by decide +kernel)
set_option maxRecDepth 100000 in
set_option maxHeartbeats 4000000 in
theorem gL_law_X8_codeCount : GoodIn wsL_law (wsV RL 191 RX8 yX8_codeCount wsX8_codeCount) := goodIn_app (goodIn_g _ [5, 942, 0, 0] [3, 0, 1, 2] rfl (by decide +kernel) (by decide +kernel)) ggL_law_X8_codeCount
set_option maxRecDepth 100000 in
set_option maxHeartbeats 4000000 in
theorem ggL_law_X7_capacity : GoodIn wsL_law wsX7_capacity := goodIn_g _ [18, 27, 50, 257, 0, 0, 597, 0, 518, 0, 0, 0, 0, 0, 0, 0, 0, 0, 0, 27, 0, 0, 0, 0, 0, 0, 0, 0, 0, 0, 0, 0, 0, 21, 0, 0, 0, 0, 0, 0, 0] [1, 5, 7, 3, 4, 6, 0, 2, 8, 9, 10, 11, 12, 13, 14, 15, 16, 17, 18, 19, 20, 21, 22, 23, 24, 25, 26, 27, 28, 29, 30, 31, 32, 33, 34, 35, 36, 37, 38, 39, 40] rfl (by decide +kernel) (by decide +kernel)
set_option maxRecDepth 100000 in
set_option maxHeartbeats 4000000 in
theorem gL_law_X7_capacity : GoodIn wsL_law (wsV RL 192 RX7 yX7_capacity wsX7_capacity) := goodIn_app (goodIn_g _ [2, 949, 0, 0] [3, 0, 1, 2] rfl (by decide +kernel) (by decide +kernel)) ggL_law_X7_capacity
set_option maxRecDepth 100000 in
set_option maxHeartbeats 4000000 in
theorem ggL_law_X8_capacity : GoodIn wsL_law wsX8_capacity := goodIn_g _ [5, 124, 38, 4, 0, 0, 0, 375, 0, 0, 0, 403, 525, 0, 0, 0, 0, 0, 0, 0, 0, 0, 0, 0, 0, 0, 0, 0, 0, 0, 0, 0, 0, 0, 0, 0, 0, 0, 0] [4, 6, 11, 7, 8, 9, 10, 1, 2, 3, 5, 0, 12, 13, 14, 15, 16, 17, 18, 19, 20, 21, 22, 23, 24, 25, 26, 27, 28, 29, 30, 31, 32, 33, 34, 35, 36, 37, 38] rfl (by decide +kernel) (by decide +kernel)
set_option maxRecDepth 100000 in
set_option maxHeartbeats 4000000 in
theorem gL_law_X8_capacity : GoodIn wsL_law (wsV RL 195 RX8 yX8_capacity wsX8_capacity) := goodIn_app (goodIn_g _ [5, 951, 0, 0] [3, 0, 1, 2] rfl (by decide +kernel) (by decide +kernel)) ggL_law_X8_capacity
set_option maxRecDepth 100000 in
set_option maxHeartbeats 4000000 in
theorem ggL_law_X7_isFull : GoodIn wsL_law wsX7_isFull := goodIn_g _ [18, 27, 50, 4, 248, 0, 0, 0, 0, 0, 0, 606, 0, 509, 0, 0, 0, 0, 0, 0, 0, 0, 0, 0, 27, 0, 0, 0, 0, 0, 0, 0, 0, 0, 0, 0, 0, 0, 21, 0, 0, 0, 0, 0, 0, 0] [1, 5, 12, 7, 3, 4, 6, 8, 9, 10, 11, 0, 2, 13, 14, 15, 16, 17, 18, 19, 20, 21, 22, 23, 24, 25, 26, 27, 28, 29, 30, 31, 32, 33, 34, 35, 36, 37, 38, 39, 40, 41, 42, 43, 44, 45] rfl (by decide +kernel) (by decide +kernel)
set_option maxRecDepth 100000 in
set_option maxHeartbeats 4000000 in
theorem gL_law_X7_isFull : GoodIn wsL_law (wsV RL 196 RX7 yX7_isFull wsX7_isFull) := goodIn_app (goodIn_g _ [2, 958, 0, 0] [3, 0, 1, 2] rfl (by decide +kernel) (by decide +kernel)) ggL_law_X7_isFull
set_option maxRecDepth 100000 in
set_option maxHeartbeats 4000000 in
theorem ggL_law_X8_isFull : GoodIn wsL_law wsX8_isFull := goodIn_g _ [5, 124, 38, 379, 0, 0, 0, 0, 0, 0, 0, 412, 0, 0, 0, 0, 512, 0, 0, 0, 0, 0, 0, 0, 0, 0, 0, 0, 0, 0, 0, 0, 0, 0, 0, 0, 0, 0, 0, 0, 0, 0, 0] [4, 6, 15, 1, 2, 3, 5, 7, 8, 9, 10, 0, 11, 12, 13, 14, 16, 17, 18, 19, 20, 21, 22, 23, 24, 25, 26, 27, 28, 29, 30, 31, 32, 33, 34, 35, 36, 37, 38, 39, 40, 41, 42] rfl (by decide +kernel) (by decide +kernel)
set_option maxRecDepth 100000 in
set_option maxHeartbeats 4000000 in
theorem gL_law_X8_isFull : GoodIn wsL_law (wsV RL 200 RX8 yX8_isFull wsX8_isFull) := goodIn_app (goodIn_g _ [5, 960, 0, 0] [3, 0, 1, 2] rfl (by decide +kernel) (by decide +kernel)) ggL_law_X8_isFull
set_option maxRecDepth 100000 in
set_option maxHeartbeats 4000000 in
theorem ggL_law_X7_codeWidth : GoodIn wsL_law wsX7_codeWidth := goodIn_g _ [2, 15, 27, 55, 256, 0, 0, 0, 0, 613, 0, 496, 0, 0, 0, 0, 0, 0, 0, 0, 0, 0, 27, 0, 0, 0, 0, 0, 0, 0, 0, 0, 0, 0, 0, 0, 21, 0, 0, 0, 0, 0, 0, 0] [9, 1, 5, 7, 3, 4, 6, 8, 10, 0, 2, 11, 12, 13, 14, 15, 16, 17, 18, 19, 20, 21, 22, 23, 24, 25, 26, 27, 28, 29, 30, 31, 32, 33, 34, 35, 36, 37, 38, 39, 40, 41, 42, 43] rfl (by decide +kernel) (by decide +kernel)
set_option maxRecDepth 100000 in
set_option maxHeartbeats 4000000 in
theorem gL_law_X7_codeWidth : GoodIn wsL_law (wsV RL 201 RX7 yX7_codeWidth wsX7_codeWidth) := goodIn_app (goodIn_g _ [2, 971, 0, 0] [3, 0, 1, 2] rfl (by decide +kernel) (by decide +kernel)) ggL_law_X7_codeWidth
set_option maxRecDepth 100000 in
set_option maxHeartbeats 4000000 in
theorem ggL_law_X8_codeWidth : GoodIn wsL_law wsX8_codeWidth := goodIn_g _ [5, 124, 38, 4, 0, 0, 0, 356, 0, 0, 445, 503, 0, 0, 0, 0, 0, 0, 0, 0, 0, 0, 0, 0, 0, 0, 0, 0, 0, 0, 0, 0, 0, 0, 0, 0, 0, 0] [4, 1, 10, 6, 7, 8, 9, 2, 3, 5, 0, 11, 12, 13, 14, 15, 16, 17, 18, 19, 20, 21, 22, 23, 24, 25, 26, 27, 28, 29, 30, 31, 32, 33, 34, 35, 36, 37] rfl (by decide +kernel) (by decide +kernel)
set_option maxRecDepth 100000 in
set_option maxHeartbeats 4000000 in
theorem gL_law_X8_codeWidth : GoodIn wsL_law (wsV RL 204 RX8 yX8_codeWidth wsX8_codeWidth) := goodIn_app (goodIn_g _ [5, 973, 0, 0] [3, 0, 1, 2] rfl (by decide +kernel) (by decide +kernel)) ggL_law_X8_codeWidth
set_option maxRecDepth 100000 in
set_option maxHeartbeats 4000000 in
theorem ggL_law_L_phraseLength : GoodIn wsL_law wsL_phraseLength := goodIn_ca (goodIn_g _ [2, 15, 27, 10, 171, 0, 134, 0, 0, 617, 0, 0, 0, 0, 0, 0, 0, 0, 0, 0, 0, 0, 0, 0, 0, 474, 0, 0, 0, 0, 0, 0, 0, 0, 0, 0, 27, 0, 0, 0, 0, 0, 0, 0, 0, 0, 0, 0, 0, 0, 21, 0, 0, 0, 0, 0, 0, 0] [5, 7, 20, 22, 23, 24, 18, 19, 21, 0, 1, 2, 3, 4, 6, 8, 9, 10, 11, 12, 13, 14, 15, 16, 17, 25, 26, 27, 28, 29, 30, 31, 32, 33, 34, 35, 36, 37, 38, 39, 40, 41, 42, 43, 44, 45, 46, 47, 48, 49, 50, 51, 52, 53, 54, 55, 56, 57] rfl (by decide +kernel) (by decide +kernel)) (goodIn_sub (fun _ h => List.mem_append_right _ h) (by decide +kernel))
set_option maxRecDepth 100000 in
set_option maxHeartbeats 4000000 in
theorem gL_law_L_phraseLength : GoodIn wsL_law (va_wsS RL 205 yL_phraseLength wsL_phraseLength) := goodIn_app (goodIn_g _ [143, 839, 0] [2, 0, 1] rfl (by decide +kernel) (by decide +kernel)) ggL_law_L_phraseLength
set_option maxRecDepth 100000 in
set_option maxHeartbeats 4000000 in
theorem ggL_law_X8_phraseLength : GoodIn wsL_law wsX8_phraseLength := goodIn_g _ [5, 124, 34, 0, 0, 0, 0, 4, 0, 0, 0, 18, 0, 0, 323, 0, 0, 0, 11, 0, 0, 0, 0, 0, 0, 0, 459, 0, 0, 0, 0, 477, 0, 0, 0, 0, 0, 0, 0, 0, 0, 0, 0, 0, 0, 0, 0, 0, 0, 0, 0, 0, 0, 0, 0, 0, 0, 0] [4, 6, 10, 11, 12, 13, 14, 27, 28, 29, 30, 7, 8, 9, 19, 20, 21, 22, 15, 16, 17, 18, 23, 24, 25, 26, 0, 1, 2, 3, 5, 31, 32, 33, 34, 35, 36, 37, 38, 39, 40, 41, 42, 43, 44, 45, 46, 47, 48, 49, 50, 51, 52, 53, 54, 55, 56, 57] rfl (by decide +kernel) (by decide +kernel)
set_option maxRecDepth 100000 in
set_option maxHeartbeats 4000000 in
theorem gL_law_X8_phraseLength : GoodIn wsL_law (wsV RL 207 RX8 yX8_phraseLength wsX8_phraseLength) := goodIn_app (goodIn_g _ [5, 995, 0, 0] [3, 0, 1, 2] rfl (by decide +kernel) (by decide +kernel)) ggL_law_X8_phraseLength
set_option maxRecDepth 100000 in
set_option maxHeartbeats 4000000 in
theorem ggL_law_L_phraseSymbol : GoodIn wsL_law wsL_phraseSymbol := goodIn_ca (goodIn_g _ [2, 15, 27, 8, 0, 0, 171, 0, 134, 0, 0, 28, 238, 0, 0, 348, 4, 0, 0, 0, 0, 0, 0, 0, 0, 0, 10, 0, 0, 0, 0, 0, 458, 0, 0, 0, 0, 0, 0, 0, 0, 0, 0, 27, 0, 0, 0, 0, 0, 0, 0, 0, 0, 0, 0, 0, 0, 21, 0, 0, 0, 0, 0, 0, 0] [5, 7, 20, 29, 30, 22, 23, 24, 18, 19, 21, 31, 26, 27, 28, 1, 8, 9, 10, 11, 12, 13, 14, 15, 16, 17, 0, 2, 3, 4, 6, 25, 32, 33, 34, 35, 36, 37, 38, 39, 40, 41, 42, 43, 44, 45, 46, 47, 48, 49, 50, 51, 52, 53, 54, 55, 56, 57, 58, 59, 60, 61, 62, 63, 64] rfl (by decide +kernel) (by decide +kernel)) (goodIn_sub (fun _ h => List.mem_append_right _ h) (by decide +kernel))
set_option maxRecDepth 100000 in
set_option maxHeartbeats 4000000 in
theorem gL_law_L_phraseSymbol : GoodIn wsL_law (va_wsS RL 208 yL_phraseSymbol wsL_phraseSymbol) := goodIn_app (goodIn_g _ [143, 865, 0] [2, 0, 1] rfl (by decide +kernel) (by decide +kernel)) ggL_law_L_phraseSymbol
set_option maxRecDepth 100000 in
set_option maxHeartbeats 4000000 in
theorem ggL_law_X8_phraseSymbol : GoodIn wsL_law wsX8_phraseSymbol := goodIn_g _ [5, 124, 34, 0, 0, 0, 0, 4, 0, 0, 0, 18, 0, 0, 323, 0, 0, 0, 11, 0, 0, 0, 0, 0, 0, 0, 460, 0, 0, 0, 11, 0, 0, 0, 0, 461, 0, 0, 0, 0, 0, 0, 0, 0, 0, 0, 0, 0, 0, 0, 0, 0, 0, 0, 0, 0, 0, 0, 0, 0, 0, 0] [4, 6, 10, 11, 12, 13, 14, 31, 32, 33, 34, 7, 8, 9, 19, 20, 21, 22, 15, 16, 17, 18, 23, 24, 25, 26, 1, 2, 3, 5, 0, 27, 28, 29, 30, 35, 36, 37, 38, 39, 40, 41, 42, 43, 44, 45, 46, 47, 48, 49, 50, 51, 52, 53, 54, 55, 56, 57, 58, 59, 60, 61] rfl (by decide +kernel) (by decide +kernel)
set_option maxRecDepth 100000 in
set_option maxHeartbeats 4000000 in
theorem gL_law_X8_phraseSymbol : GoodIn wsL_law (wsV RL 211 RX8 yX8_phraseSymbol wsX8_phraseSymbol) := goodIn_app (goodIn_g _ [5, 1011, 0, 0] [3, 0, 1, 2] rfl (by decide +kernel) (by decide +kernel)) ggL_law_X8_phraseSymbol
set_option maxRecDepth 100000 in
set_option maxHeartbeats 4000000 in
theorem ggL_law_L_prefixOf : GoodIn wsL_law wsL_prefixOf := goodIn_ca (goodIn_ca (goodIn_g _ [2, 15, 27, 10, 171, 0, 102, 31, 0, 0, 489, 4, 0, 122, 4, 0, 0, 0, 0, 0, 0, 0, 0, 0, 26, 0, 0, 0, 0, 443, 0, 0, 0, 0, 0, 0, 0, 0, 0, 0, 27, 0, 0, 0, 0, 0, 0, 0, 0, 0, 0, 0, 0, 0, 21, 0, 0, 0, 0, 0, 0, 0] [6, 10, 23, 25, 26, 27, 28, 21, 22, 24, 2, 8, 9, 1, 11, 12, 13, 14, 15, 16, 17, 18, 19, 20, 0, 3, 4, 5, 7, 29, 30, 31, 32, 33, 34, 35, 36, 37, 38, 39, 40, 41, 42, 43, 44, 45, 46, 47, 48, 49, 50, 51, 52, 53, 54, 55, 56, 57, 58, 59, 60, 61] rfl (by decide +kernel) (by decide +kernel)) (goodIn_sub (fun _ h => List.mem_append_left _ (List.mem_append_right _ h)) (by decide +kernel))) (goodIn_sub (fun _ h => List.mem_append_right _ h) (by decide +kernel))
set_option maxRecDepth 100000 in
set_option maxHeartbeats 4000000 in
theorem gL_law_L_prefixOf : GoodIn wsL_law (va_wsS RL 212 yL_prefixOf wsL_prefixOf) := goodIn_app (goodIn_g _ [143, 881, 0] [2, 0, 1] rfl (by decide +kernel) (by decide +kernel)) ggL_law_L_prefixOf
set_option maxRecDepth 100000 in
set_option maxHeartbeats 4000000 in
theorem ggL_law_X8_prefixOf : GoodIn wsL_law wsX8_prefixOf := goodIn_g _ [5, 124, 34, 0, 0, 0, 0, 4, 0, 0, 0, 18, 0, 0, 323, 0, 0, 0, 15, 0, 0, 0, 460, 0, 0, 0, 26, 450, 0, 0, 0, 0, 0, 0, 0, 0, 0, 0, 0, 0, 0, 0, 0, 0, 0, 0, 0, 0, 0, 0, 0, 0, 0, 0] [5, 1, 10, 11, 12, 13, 14, 23, 24, 25, 26, 7, 8, 9, 19, 20, 21, 22, 15, 16, 17, 18, 2, 3, 4, 6, 0, 27, 28, 29, 30, 31, 32, 33, 34, 35, 36, 37, 38, 39, 40, 41, 42, 43, 44, 45, 46, 47, 48, 49, 50, 51, 52, 53] rfl (by decide +kernel) (by decide +kernel)
set_option maxRecDepth 100000 in
set_option maxHeartbeats 4000000 in
theorem gL_law_X8_prefixOf : GoodIn wsL_law (wsV RL 214 RX8 yX8_prefixOf wsX8_prefixOf) := goodIn_app (goodIn_g _ [5, 1026, 0, 0] [3, 0, 1, 2] rfl (by decide +kernel) (by decide +kernel)) ggL_law_X8_prefixOf
set_option maxRecDepth 100000 in
set_option maxHeartbeats 4000000 in
theorem ggL_law_L_extensionOf : GoodIn wsL_law wsL_extensionOf := goodIn_ca (goodIn_ca (goodIn_ca (goodIn_g _ [2, 15, 27, 9, 1, 0, 36, 88, 4, 0, 37, 0, 112, 0, 0, 388, 0, 0, 0, 0, 0, 0, 0, 115, 4, 0, 122, 4, 0, 0, 0, 0, 0, 0, 0, 0, 38, 0, 0, 0, 0, 0, 431, 0, 0, 0, 0, 0, 0, 0, 0, 0, 0, 27, 0, 0, 0, 0, 0, 0, 0, 0, 0, 0, 0, 0, 0, 21, 0, 0, 0, 0, 0, 0, 0] [7, 13, 34, 38, 36, 39, 37, 2, 9, 10, 40, 41, 32, 33, 35, 23, 24, 25, 26, 27, 28, 29, 30, 3, 11, 12, 1, 14, 15, 16, 17, 18, 19, 20, 21, 22, 0, 4, 5, 6, 8, 31, 42, 43, 44, 45, 46, 47, 48, 49, 50, 51, 52, 53, 54, 55, 56, 57, 58, 59, 60, 61, 62, 63, 64, 65, 66, 67, 68, 69, 70, 71, 72, 73, 74] rfl (by decide +kernel) (by decide +kernel)) (goodIn_sub (fun _ h => List.mem_append_left _ (List.mem_append_left _ (List.mem_append_right _ h))) (by decide +kernel))) (goodIn_sub (fun _ h => List.mem_append_left _ (List.mem_append_right _ h)) (by decide +kernel))) (goodIn_sub (fun _ h => List.mem_append_right _ h) (by decide +kernel))
set_option maxRecDepth 100000 in
set_option maxHeartbeats 4000000 in
theorem gL_law_L_extensionOf : GoodIn wsL_law (va_wsS RL 215 yL_extensionOf wsL_extensionOf) := goodIn_app (goodIn_g _ [143, 892, 0] [2, 0, 1] rfl (by decide +kernel) (by decide +kernel)) ggL_law_L_extensionOf
set_option maxRecDepth 100000 in
set_option maxHeartbeats 4000000 in
theorem ggL_law_X8_extensionOf : GoodIn wsL_law wsX8_extensionOf := goodIn_g _ [5, 124, 34, 0, 0, 0, 0, 4, 0, 0, 0, 18, 0, 0, 307, 0, 0, 0, 8, 0, 0, 0, 0, 0, 0, 0, 479, 0, 0, 0, 38, 438, 0, 0, 0, 0, 0, 0, 0, 0, 0, 0, 0, 0, 0, 0, 0, 0, 0, 0, 0, 0, 0, 0, 0, 0, 0, 0] [4, 6, 10, 11, 12, 13, 14, 27, 28, 29, 30, 7, 8, 9, 15, 16, 17, 18, 23, 24, 25, 26, 19, 20, 21, 22, 1, 2, 3, 5, 0, 31, 32, 33, 34, 35, 36, 37, 38, 39, 40, 41, 42, 43, 44, 45, 46, 47, 48, 49, 50, 51, 52, 53, 54, 55, 56, 57] rfl (by decide +kernel) (by decide +kernel)
set_option maxRecDepth 100000 in
set_option maxHeartbeats 4000000 in
theorem gL_law_X8_extensionOf : GoodIn wsL_law (wsV RL 217 RX8 yX8_extensionOf wsX8_extensionOf) := goodIn_app (goodIn_g _ [5, 1038, 0, 0] [3, 0, 1, 2] rfl (by decide +kernel) (by decide +kernel)) ggL_law_X8_extensionOf
set_option maxRecDepth 100000 in
set_option maxHeartbeats 4000000 in
theorem ggL_law_L_extensionCount : GoodIn wsL_law wsL_extensionCount := goodIn_ca (goodIn_g _ [2, 15, 27, 11, 0, 36, 132, 0, 755, 4, 0, 0, 0, 0, 0, 0, 0, 0, 50, 0, 0, 0, 0, 0, 0, 0, 0, 416, 0, 0, 0, 0, 0, 0, 0, 0, 0, 0, 27, 0, 0, 0, 0, 0, 0, 0, 0, 0, 0, 0, 0, 0, 21, 0, 0, 0, 0, 0, 0, 0] [5, 7, 20, 22, 24, 23, 25, 26, 1, 8, 9, 10, 11, 12, 13, 14, 15, 16, 0, 2, 3, 4, 6, 17, 18, 19, 21, 27, 28, 29, 30, 31, 32, 33, 34, 35, 36, 37, 38, 39, 40, 41, 42, 43, 44, 45, 46, 47, 48, 49, 50, 51, 52, 53, 54, 55, 56, 57, 58, 59] rfl (by decide +kernel) (by decide +kernel)) (goodIn_sub (fun _ h => List.mem_append_right _ h) (by decide +kernel))
set_option maxRecDepth 100000 in
set_option maxHeartbeats 4000000 in
theorem gL_law_L_extensionCount : GoodIn wsL_law (va_wsS RL 218 yL_extensionCount wsL_extensionCount) := goodIn_app (goodIn_g _ [143, 904, 0] [2, 0, 1] rfl (by decide +kernel) (by decide +kernel)) ggL_law_L_extensionCount
set_option maxRecDepth 100000 in
set_option maxHeartbeats 4000000 in
theorem ggL_law_X8_extensionCount : GoodIn wsL_law wsX8_extensionCount := goodIn_g _ [5, 124, 34, 0, 0, 0, 0, 4, 0, 0, 0, 18, 0, 0, 323, 0, 0, 0, 479, 0, 0, 0, 53, 423, 0, 0, 0, 0, 0, 0, 0, 0, 0, 0, 0, 0, 0, 0, 0, 0, 0, 0, 0, 0, 0, 0, 0, 0, 0, 0] [5, 1, 10, 11, 12, 13, 14, 19, 20, 21, 22, 7, 8, 9, 15, 16, 17, 18, 2, 3, 4, 6, 0, 23, 24, 25, 26, 27, 28, 29, 30, 31, 32, 33, 34, 35, 36, 37, 38, 39, 40, 41, 42, 43, 44, 45, 46, 47, 48, 49] rfl (by decide +kernel) (by decide +kernel)
set_option maxRecDepth 100000 in
set_option maxHeartbeats 4000000 in
theorem gL_law_X8_extensionCount : GoodIn wsL_law (wsV RL 220 RX8 yX8_extensionCount wsX8_extensionCount) := goodIn_app (goodIn_g _ [5, 1053, 0, 0] [3, 0, 1, 2] rfl (by decide +kernel) (by decide +kernel)) ggL_law_X8_extensionCount
set_option maxRecDepth 100000 in
set_option maxHeartbeats 4000000 in
theorem ggL_law_X7_longestPhrase : GoodIn wsL_law wsX7_longestPhrase := goodIn_g _ [2, 15, 27, 10, 44, 126, 0, 134, 0, 0, 28, 669, 0, 0, 0, 0, 404, 0, 0, 0, 0, 0, 0, 0, 0, 0, 0, 27, 0, 0, 0, 0, 0, 0, 0, 0, 0, 0, 0, 0, 0, 21, 0, 0, 0, 0, 0, 0, 0] [14, 1, 5, 12, 7, 13, 15, 9, 10, 11, 8, 0, 2, 3, 4, 6, 16, 17, 18, 19, 20, 21, 22, 23, 24, 25, 26, 27, 28, 29, 30, 31, 32, 33, 34, 35, 36, 37, 38, 39, 40, 41, 42, 43, 44, 45, 46, 47, 48] rfl (by decide +kernel) (by decide +kernel)
