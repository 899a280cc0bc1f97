set_option maxRecDepth 100000 in
set_option maxHeartbeats 4000000 in
theorem ggL_law_X8_byteAt : GoodIn wsL_law wsX8_byteAt := goodIn_g _ [5, 124, 34, 0, 0, 0, 0, 4, 0, 0, 0, 18, 0, 0, 366, 0, 0, 0, 0, 0, 0, 0, 4, 0, 0, 0, 647, 0, 0, 0, 18, 0, 0, 0, 8, 0, 0, 0, 11, 208, 0, 0, 0, 0, 0, 0, 0, 0, 0, 0, 0, 0, 0, 0, 0, 0, 0, 0, 0, 0, 0, 0, 0, 0, 0, 0] [4, 14, 22, 23, 24, 25, 26, 35, 36, 37, 38, 19, 20, 21, 10, 11, 12, 13, 15, 16, 17, 18, 31, 32, 33, 34, 6, 7, 8, 9, 27, 28, 29, 30, 1, 2, 3, 5, 0, 39, 40, 41, 42, 43, 44, 45, 46, 47, 48, 49, 50, 51, 52, 53, 54, 55, 56, 57, 58, 59, 60, 61, 62, 63, 64, 65] rfl (by decide +kernel) (by decide +kernel)
set_option maxRecDepth 100000 in
set_option maxHeartbeats 4000000 in
theorem gL_law_X8_byteAt : GoodIn wsL_law (wsV RL 274 RX8 yX8_byteAt wsX8_byteAt) := goodIn_app (goodIn_g _ [5, 1268, 0, 0] [3, 0, 1, 2] rfl (by decide +kernel) (by decide +kernel)) ggL_law_X8_byteAt
set_option maxRecDepth 100000 in
set_option maxHeartbeats 4000000 in
theorem ggL_law_X7_clearCount : GoodIn wsL_law wsX7_clearCount := goodIn_g _ [18, 1262, 193, 0, 0, 0, 0, 0, 0, 0, 0, 0, 0, 27, 0, 0, 0, 0, 0, 0, 0, 0, 0, 0, 0, 0, 0] [1, 0, 2, 3, 4, 5, 6, 7, 8, 9, 10, 11, 12, 13, 14, 15, 16, 17, 18, 19, 20, 21, 22, 23, 24, 25, 26] rfl (by decide +kernel) (by decide +kernel)
set_option maxRecDepth 100000 in
set_option maxHeartbeats 4000000 in
theorem gL_law_X7_clearCount : GoodIn wsL_law (wsV RL 275 RX7 yX7_clearCount wsX7_clearCount) := goodIn_app (goodIn_g _ [2, 1275, 0, 0] [3, 0, 1, 2] rfl (by decide +kernel) (by decide +kernel)) ggL_law_X7_clearCount
set_option maxRecDepth 100000 in
set_option maxHeartbeats 4000000 in
theorem ggL_law_X8_clearCount : GoodIn wsL_law wsX8_clearCount := goodIn_g _ [5, 124, 38, 4, 0, 0, 0, 1107, 200, 0, 0, 0, 0, 0, 0, 0, 0, 0, 0, 0, 0, 0, 0, 0, 0, 0, 0, 0, 0, 0, 0, 0, 0, 0, 0] [5, 1, 7, 2, 3, 4, 6, 0, 8, 9, 10, 11, 12, 13, 14, 15, 16, 17, 18, 19, 20, 21, 22, 23, 24, 25, 26, 27, 28, 29, 30, 31, 32, 33, 34] rfl (by decide +kernel) (by decide +kernel)
set_option maxRecDepth 100000 in
set_option maxHeartbeats 4000000 in
theorem gL_law_X8_clearCount : GoodIn wsL_law (wsV RL 278 RX8 yX8_clearCount wsX8_clearCount) := goodIn_app (goodIn_g _ [5, 1276, 0, 0] [3, 0, 1, 2] rfl (by decide +kernel) (by decide +kernel)) ggL_law_X8_clearCount
set_option maxRecDepth 100000 in
set_option maxHeartbeats 4000000 in
theorem ggL_law_X7_codesSinceClear : GoodIn wsL_law wsX7_codesSinceClear := goodIn_g _ [18, 1270, 185, 0, 0, 0, 0, 0, 0, 0, 0, 0, 0, 27, 0, 0, 0, 0, 0, 0, 0, 0, 0, 0, 0, 0, 0] [1, 0, 2, 3, 4, 5, 6, 7, 8, 9, 10, 11, 12, 13, 14, 15, 16, 17, 18, 19, 20, 21, 22, 23, 24, 25, 26] rfl (by decide +kernel) (by decide +kernel)
set_option maxRecDepth 100000 in
set_option maxHeartbeats 4000000 in
theorem gL_law_X7_codesSinceClear : GoodIn wsL_law (wsV RL 279 RX7 yX7_codesSinceClear wsX7_codesSinceClear) := goodIn_app (goodIn_g _ [2, 1283, 0, 0] [3, 0, 1, 2] rfl (by decide +kernel) (by decide +kernel)) ggL_law_X7_codesSinceClear
set_option maxRecDepth 100000 in
set_option maxHeartbeats 4000000 in
theorem ggL_law_X8_codesSinceClear : GoodIn wsL_law wsX8_codesSinceClear := goodIn_g _ [5, 124, 38, 4, 0, 0, 0, 1115, 192, 0, 0, 0, 0, 0, 0, 0, 0, 0, 0, 0, 0, 0, 0, 0, 0, 0, 0, 0, 0, 0, 0, 0, 0, 0, 0] [5, 1, 7, 2, 3, 4, 6, 0, 8, 9, 10, 11, 12, 13, 14, 15, 16, 17, 18, 19, 20, 21, 22, 23, 24, 25, 26, 27, 28, 29, 30, 31, 32, 33, 34] rfl (by decide +kernel) (by decide +kernel)
set_option maxRecDepth 100000 in
set_option maxHeartbeats 4000000 in
theorem gL_law_X8_codesSinceClear : GoodIn wsL_law (wsV RL 282 RX8 yX8_codesSinceClear wsX8_codesSinceClear) := goodIn_app (goodIn_g _ [5, 1284, 0, 0] [3, 0, 1, 2] rfl (by decide +kernel) (by decide +kernel)) ggL_law_X8_codesSinceClear
set_option maxRecDepth 100000 in
set_option maxHeartbeats 4000000 in
theorem ggL_law_X7_symbolsSinceClear : GoodIn wsL_law wsX7_symbolsSinceClear := goodIn_g _ [18, 1278, 177, 0, 0, 0, 0, 0, 0, 0, 0, 0, 0, 27, 0, 0, 0, 0, 0, 0, 0, 0, 0, 0, 0, 0, 0] [1, 0, 2, 3, 4, 5, 6, 7, 8, 9, 10, 11, 12, 13, 14, 15, 16, 17, 18, 19, 20, 21, 22, 23, 24, 25, 26] rfl (by decide +kernel) (by decide +kernel)
set_option maxRecDepth 100000 in
set_option maxHeartbeats 4000000 in
theorem gL_law_X7_symbolsSinceClear : GoodIn wsL_law (wsV RL 283 RX7 yX7_symbolsSinceClear wsX7_symbolsSinceClear) := goodIn_app (goodIn_g _ [2, 1291, 0, 0] [3, 0, 1, 2] rfl (by decide +kernel) (by decide +kernel)) ggL_law_X7_symbolsSinceClear
set_option maxRecDepth 100000 in
set_option maxHeartbeats 4000000 in
theorem ggL_law_X8_symbolsSinceClear : GoodIn wsL_law wsX8_symbolsSinceClear := goodIn_g _ [5, 124, 38, 4, 0, 0, 0, 344, 0, 0, 0, 11, 0, 0, 0, 0, 0, 0, 0, 28, 0, 0, 0, 0, 0, 0, 0, 720, 184, 0, 0, 0, 0, 0, 0, 0, 0, 0, 0, 0, 0, 0, 0, 0, 0, 0, 0, 0, 0, 0, 0, 0, 0, 0, 0] [4, 6, 27, 23, 24, 25, 26, 15, 16, 17, 18, 11, 12, 13, 14, 19, 20, 21, 22, 1, 2, 3, 5, 7, 8, 9, 10, 0, 28, 29, 30, 31, 32, 33, 34, 35, 36, 37, 38, 39, 40, 41, 42, 43, 44, 45, 46, 47, 48, 49, 50, 51, 52, 53, 54] rfl (by decide +kernel) (by decide +kernel)
set_option maxRecDepth 100000 in
set_option maxHeartbeats 4000000 in
theorem gL_law_X8_symbolsSinceClear : GoodIn wsL_law (wsV RL 286 RX8 yX8_symbolsSinceClear wsX8_symbolsSinceClear) := goodIn_app (goodIn_g _ [5, 1292, 0, 0] [3, 0, 1, 2] rfl (by decide +kernel) (by decide +kernel)) ggL_law_X8_symbolsSinceClear
set_option maxRecDepth 100000 in
set_option maxHeartbeats 4000000 in
theorem ggL_law_X7_bitsSinceClear : GoodIn wsL_law wsX7_bitsSinceClear := goodIn_g _ [18, 1286, 169, 0, 0, 0, 0, 0, 0, 0, 0, 0, 0, 27, 0, 0, 0, 0, 0, 0, 0, 0, 0, 0, 0, 0, 0] [1, 0, 2, 3, 4, 5, 6, 7, 8, 9, 10, 11, 12, 13, 14, 15, 16, 17, 18, 19, 20, 21, 22, 23, 24, 25, 26] rfl (by decide +kernel) (by decide +kernel)
set_option maxRecDepth 100000 in
set_option maxHeartbeats 4000000 in
theorem gL_law_X7_bitsSinceClear : GoodIn wsL_law (wsV RL 287 RX7 yX7_bitsSinceClear wsX7_bitsSinceClear) := goodIn_app (goodIn_g _ [2, 1299, 0, 0] [3, 0, 1, 2] rfl (by decide +kernel) (by decide +kernel)) ggL_law_X7_bitsSinceClear
set_option maxRecDepth 100000 in
set_option maxHeartbeats 4000000 in
theorem ggL_law_X8_bitsSinceClear : GoodIn wsL_law wsX8_bitsSinceClear := goodIn_g _ [5, 124, 38, 4, 0, 0, 0, 383, 0, 0, 0, 0, 0, 0, 0, 0, 0, 0, 0, 736, 176, 0, 0, 0, 0, 0, 0, 0, 0, 0, 0, 0, 0, 0, 0, 0, 0, 0, 0, 0, 0, 0, 0, 0, 0, 0, 0] [4, 6, 19, 15, 16, 17, 18, 1, 2, 3, 5, 7, 8, 9, 10, 11, 12, 13, 14, 0, 20, 21, 22, 23, 24, 25, 26, 27, 28, 29, 30, 31, 32, 33, 34, 35, 36, 37, 38, 39, 40, 41, 42, 43, 44, 45, 46] rfl (by decide +kernel) (by decide +kernel)
set_option maxRecDepth 100000 in
set_option maxHeartbeats 4000000 in
theorem gL_law_X8_bitsSinceClear : GoodIn wsL_law (wsV RL 290 RX8 yX8_bitsSinceClear wsX8_bitsSinceClear) := goodIn_app (goodIn_g _ [5, 1300, 0, 0] [3, 0, 1, 2] rfl (by decide +kernel) (by decide +kernel)) ggL_law_X8_bitsSinceClear
set_option maxRecDepth 100000 in
set_option maxHeartbeats 4000000 in
theorem ggL_law_X7_percentSinceClear : GoodIn wsL_law wsX7_percentSinceClear := goodIn_g _ [2, 14, 0, 27, 0, 48, 265, 0, 5, 0, 0, 0, 0, 0, 0, 937, 0, 160, 0, 0, 0, 0, 0, 0, 0, 0, 0, 0, 27, 0, 0, 0, 0, 0, 0, 0, 0, 0, 0, 0, 0, 0, 21, 0, 0, 0, 0, 0, 0, 0] [15, 5, 1, 11, 7, 13, 14, 16, 3, 4, 6, 8, 9, 10, 12, 0, 2, 17, 18, 19, 20, 21, 22, 23, 24, 25, 26, 27, 28, 29, 30, 31, 32, 33, 34, 35, 36, 37, 38, 39, 40, 41, 42, 43, 44, 45, 46, 47, 48, 49] rfl (by decide +kernel) (by decide +kernel)
set_option maxRecDepth 100000 in
set_option maxHeartbeats 4000000 in
theorem gL_law_X7_percentSinceClear : GoodIn wsL_law (wsV RL 291 RX7 yX7_percentSinceClear wsX7_percentSinceClear) := goodIn_app (goodIn_g _ [2, 1307, 0, 0] [3, 0, 1, 2] rfl (by decide +kernel) (by decide +kernel)) ggL_law_X7_percentSinceClear
set_option maxRecDepth 100000 in
set_option maxHeartbeats 4000000 in
theorem ggL_law_X8_percentSinceClear : GoodIn wsL_law wsX8_percentSinceClear := goodIn_g _ [5, 124, 38, 4, 0, 0, 0, 344, 0, 0, 0, 8, 0, 0, 0, 0, 0, 0, 0, 0, 0, 0, 12, 0, 0, 0, 0, 0, 0, 0, 0, 0, 0, 0, 0, 0, 0, 0, 0, 0, 0, 0, 0, 0, 0, 0, 0, 0, 0, 0, 0, 0, 0, 0, 729, 167, 0, 0, 0, 0, 0, 0, 0, 0, 0, 0, 0, 0, 0, 0, 0, 0, 0, 0, 0, 0, 0, 0, 0, 0, 0, 0] [4, 10, 54, 50, 51, 52, 53, 31, 32, 33, 34, 47, 48, 49, 27, 28, 29, 30, 35, 36, 37, 38, 1, 2, 3, 5, 6, 7, 8, 9, 11, 12, 13, 14, 15, 16, 17, 18, 19, 20, 21, 22, 23, 24, 25, 26, 39, 40, 41, 42, 43, 44, 45, 46, 0, 55, 56, 57, 58, 59, 60, 61, 62, 63, 64, 65, 66, 67, 68, 69, 70, 71, 72, 73, 74, 75, 76, 77, 78, 79, 80, 81] rfl (by decide +kernel) (by decide +kernel)
set_option maxRecDepth 100000 in
set_option maxHeartbeats 4000000 in
theorem gL_law_X8_percentSinceClear : GoodIn wsL_law (wsV RL 294 RX8 yX8_percentSinceClear wsX8_percentSinceClear) := goodIn_app (goodIn_g _ [5, 1309, 0, 0] [3, 0, 1, 2] rfl (by decide +kernel) (by decide +kernel)) ggL_law_X8_percentSinceClear
set_option maxRecDepth 100000 in
set_option maxHeartbeats 4000000 in
theorem ggL_law_X7_savedBits : GoodIn wsL_law wsX7_savedBits := goodIn_g _ [2, 14, 0, 27, 0, 0, 8, 38, 14, 117, 0, 131, 0, 0, 0, 0, 0, 5, 0, 0, 555, 390, 0, 0, 0, 0, 148, 0, 0, 0, 0, 0, 0, 0, 0, 0, 0, 27, 0, 0, 0, 0, 0, 0, 0, 0, 0, 0, 0, 0, 0, 21, 0, 0, 0, 0, 0, 0, 0] [17, 5, 1, 13, 9, 7, 15, 23, 8, 16, 18, 24, 25, 10, 11, 12, 14, 20, 21, 22, 19, 0, 2, 3, 4, 6, 26, 27, 28, 29, 30, 31, 32, 33, 34, 35, 36, 37, 38, 39, 40, 41, 42, 43, 44, 45, 46, 47, 48, 49, 50, 51, 52, 53, 54, 55, 56, 57, 58] rfl (by decide +kernel) (by decide +kernel)
set_option maxRecDepth 100000 in
set_option maxHeartbeats 4000000 in
theorem gL_law_X7_savedBits : GoodIn wsL_law (wsV RL 295 RX7 yX7_savedBits wsX7_savedBits) := goodIn_app (goodIn_g _ [2, 1316, 0, 0] [3, 0, 1, 2] rfl (by decide +kernel) (by decide +kernel)) ggL_law_X7_savedBits
set_option maxRecDepth 100000 in
set_option maxHeartbeats 4000000 in
theorem ggL_law_X8_savedBits : GoodIn wsL_law wsX8_savedBits := goodIn_g _ [5, 124, 38, 4, 0, 0, 0, 356, 0, 0, 28, 0, 0, 0, 0, 0, 0, 0, 12, 0, 0, 0, 639, 0, 0, 0, 98, 155, 0, 0, 0, 0, 0, 0, 0, 0, 0, 0, 0, 0, 0, 0, 0, 0, 0, 0, 0, 0, 0, 0, 0, 0, 0, 0] [5, 1, 26, 22, 23, 24, 25, 7, 8, 9, 14, 15, 16, 17, 18, 19, 20, 21, 2, 3, 4, 6, 10, 11, 12, 13, 0, 27, 28, 29, 30, 31, 32, 33, 34, 35, 36, 37, 38, 39, 40, 41, 42, 43, 44, 45, 46, 47, 48, 49, 50, 51, 52, 53] rfl (by decide +kernel) (by decide +kernel)
set_option maxRecDepth 100000 in
set_option maxHeartbeats 4000000 in
theorem gL_law_X8_savedBits : GoodIn wsL_law (wsV RL 298 RX8 yX8_savedBits wsX8_savedBits) := goodIn_app (goodIn_g _ [5, 1321, 0, 0] [3, 0, 1, 2] rfl (by decide +kernel) (by decide +kernel)) ggL_law_X8_savedBits
set_option maxRecDepth 100000 in
set_option maxHeartbeats 4000000 in
theorem ggL_law_X7_bitsPerSymbol : GoodIn wsL_law wsX7_bitsPerSymbol := goodIn_g _ [2, 14, 0, 27, 0, 0, 8, 53, 117, 0, 133, 0, 0, 0, 955, 0, 0, 0, 7, 140, 0, 0, 0, 0, 0, 0, 0, 0, 0, 0, 27, 0, 0, 0, 0, 0, 0, 0, 0, 0, 0, 0, 0, 0, 21, 0, 0, 0, 0, 0, 0, 0] [17, 5, 1, 13, 9, 7, 15, 8, 16, 18, 10, 11, 12, 14, 2, 3, 4, 6, 0, 19, 20, 21, 22, 23, 24, 25, 26, 27, 28, 29, 30, 31, 32, 33, 34, 35, 36, 37, 38, 39, 40, 41, 42, 43, 44, 45, 46, 47, 48, 49, 50, 51] rfl (by decide +kernel) (by decide +kernel)
set_option maxRecDepth 100000 in
set_option maxHeartbeats 4000000 in
theorem gL_law_X7_bitsPerSymbol : GoodIn wsL_law (wsV RL 299 RX7 yX7_bitsPerSymbol wsX7_bitsPerSymbol) := goodIn_app (goodIn_g _ [2, 1328, 0, 0] [3, 0, 1, 2] rfl (by decide +kernel) (by decide +kernel)) ggL_law_X7_bitsPerSymbol
set_option maxRecDepth 100000 in
set_option maxHeartbeats 4000000 in
theorem ggL_law_X8_bitsPerSymbol : GoodIn wsL_law wsX8_bitsPerSymbol := goodIn_g _ [5, 124, 38, 395, 0, 0, 0, 0, 0, 0, 0, 655, 0, 0, 0, 106, 147, 0, 0, 0, 0, 0, 0, 0, 0, 0, 0, 0, 0, 0, 0, 0, 0, 0, 0, 0, 0, 0, 0, 0, 0, 0, 0] [6, 2, 1, 8, 9, 10, 11, 12, 13, 14, 15, 3, 4, 5, 7, 0, 16, 17, 18, 19, 20, 21, 22, 23, 24, 25, 26, 27, 28, 29, 30, 31, 32, 33, 34, 35, 36, 37, 38, 39, 40, 41, 42] rfl (by decide +kernel) (by decide +kernel)
set_option maxRecDepth 100000 in
set_option maxHeartbeats 4000000 in
theorem gL_law_X8_bitsPerSymbol : GoodIn wsL_law (wsV RL 303 RX8 yX8_bitsPerSymbol wsX8_bitsPerSymbol) := goodIn_app (goodIn_g _ [5, 1329, 0, 0] [3, 0, 1, 2] rfl (by decide +kernel) (by decide +kernel)) ggL_law_X8_bitsPerSymbol
set_option maxRecDepth 100000 in
set_option maxHeartbeats 4000000 in
theorem ggL_law_X7_fillShare : GoodIn wsL_law wsX7_fillShare := goodIn_g _ [18, 27, 50, 257, 0, 0, 598, 385, 132, 0, 0, 0, 0, 0, 0, 0, 0, 0, 0, 27, 0, 0, 0, 0, 0, 0, 0, 0, 0, 0, 0, 0, 0, 21, 0, 0, 0, 0, 0, 0, 0] [1, 5, 7, 3, 4, 6, 2, 0, 8, 9, 10, 11, 12, 13, 14, 15, 16, 17, 18, 19, 20, 21, 22, 23, 24, 25, 26, 27, 28, 29, 30, 31, 32, 33, 34, 35, 36, 37, 38, 39, 40] rfl (by decide +kernel) (by decide +kernel)
set_option maxRecDepth 100000 in
set_option maxHeartbeats 4000000 in
theorem gL_law_X7_fillShare : GoodIn wsL_law (wsV RL 304 RX7 yX7_fillShare wsX7_fillShare) := goodIn_app (goodIn_g _ [2, 1336, 0, 0] [3, 0, 1, 2] rfl (by decide +kernel) (by decide +kernel)) ggL_law_X7_fillShare
set_option maxRecDepth 100000 in
set_option maxHeartbeats 4000000 in
theorem ggL_law_X8_fillShare : GoodIn wsL_law wsX8_fillShare := goodIn_g _ [5, 124, 38, 383, 0, 0, 0, 789, 139, 0, 0, 0, 0, 0, 0, 0, 0, 0, 0, 0, 0, 0, 0, 0, 0, 0, 0, 0, 0, 0, 0, 0, 0, 0, 0] [6, 2, 1, 3, 4, 5, 7, 0, 8, 9, 10, 11, 12, 13, 14, 15, 16, 17, 18, 19, 20, 21, 22, 23, 24, 25, 26, 27, 28, 29, 30, 31, 32, 33, 34] rfl (by decide +kernel) (by decide +kernel)
set_option maxRecDepth 100000 in
set_option maxHeartbeats 4000000 in
theorem gL_law_X8_fillShare : GoodIn wsL_law (wsV RL 308 RX8 yX8_fillShare wsX8_fillShare) := goodIn_app (goodIn_g _ [5, 1337, 0, 0] [3, 0, 1, 2] rfl (by decide +kernel) (by decide +kernel)) ggL_law_X8_fillShare
set_option maxRecDepth 100000 in
set_option maxHeartbeats 4000000 in
theorem ggL_law_X7_decodedCount : GoodIn wsL_law wsX7_decodedCount := goodIn_g _ [206, 1143, 124, 0, 0, 0, 0, 0, 0, 0, 0, 0, 0] [1, 0, 2, 3, 4, 5, 6, 7, 8, 9, 10, 11, 12] rfl (by decide +kernel) (by decide +kernel)
set_option maxRecDepth 100000 in
set_option maxHeartbeats 4000000 in
theorem gL_law_X7_decodedCount : GoodIn wsL_law (wsV RL 309 RX7 yX7_decodedCount wsX7_decodedCount) := goodIn_app (goodIn_g _ [2, 1344, 0, 0] [3, 0, 1, 2] rfl (by decide +kernel) (by decide +kernel)) ggL_law_X7_decodedCount
set_option maxRecDepth 100000 in
set_option maxHeartbeats 4000000 in
theorem ggL_law_X8_decodedCount : GoodIn wsL_law wsX8_decodedCount := goodIn_g _ [5, 163, 4, 0, 0, 0, 232, 943, 131, 0, 0, 0, 0, 0, 0, 0, 0, 0, 0, 0, 0, 0, 0, 0, 0, 0, 0, 0, 0, 0, 0, 0, 0, 0, 0] [5, 7, 2, 3, 4, 6, 1, 0, 8, 9, 10, 11, 12, 13, 14, 15, 16, 17, 18, 19, 20, 21, 22, 23, 24, 25, 26, 27, 28, 29, 30, 31, 32, 33, 34] rfl (by decide +kernel) (by decide +kernel)
set_option maxRecDepth 100000 in
set_option maxHeartbeats 4000000 in
theorem gL_law_X8_decodedCount : GoodIn wsL_law (wsV RL 312 RX8 yX8_decodedCount wsX8_decodedCount) := goodIn_app (goodIn_g _ [5, 1345, 0, 0] [3, 0, 1, 2] rfl (by decide +kernel) (by decide +kernel)) ggL_law_X8_decodedCount
set_option maxRecDepth 100000 in
set_option maxHeartbeats 4000000 in
theorem ggL_law_L_decodedSymbol : GoodIn wsL_law wsL_decodedSymbol := goodIn_ca (goodIn_g _ [2, 20, 182, 22, 0, 102, 652, 8, 0, 0, 0, 0, 357, 0, 0, 0, 0, 113, 0, 0, 0, 0, 0, 0, 0, 0, 0, 0] [5, 8, 7, 15, 16, 14, 1, 9, 10, 11, 12, 13, 0, 2, 3, 4, 6, 17, 18, 19, 20, 21, 22, 23, 24, 25, 26, 27] rfl (by decide +kernel) (by decide +kernel)) (goodIn_sub (fun _ h => List.mem_append_right _ h) (by decide +kernel))
set_option maxRecDepth 100000 in
set_option maxHeartbeats 4000000 in
theorem gL_law_L_decodedSymbol : GoodIn wsL_law (va_wsS RL 313 yL_decodedSymbol wsL_decodedSymbol) := goodIn_app (goodIn_g _ [143, 1211, 0] [2, 0, 1] rfl (by decide +kernel) (by decide +kernel)) ggL_law_L_decodedSymbol
set_option maxRecDepth 100000 in
set_option maxHeartbeats 4000000 in
theorem ggL_law_X8_decodedSymbol : GoodIn wsL_law wsX8_decodedSymbol := goodIn_g _ [5, 133, 25, 0, 0, 0, 0, 4, 0, 0, 0, 18, 0, 0, 211, 954, 120, 0, 0, 0, 0, 0, 0, 0, 0, 0, 0, 0, 0, 0, 0, 0, 0, 0, 0, 0, 0, 0, 0, 0, 0, 0, 0] [5, 2, 7, 8, 9, 10, 11, 12, 13, 14, 15, 3, 4, 6, 1, 0, 16, 17, 18, 19, 20, 21, 22, 23, 24, 25, 26, 27, 28, 29, 30, 31, 32, 33, 34, 35, 36, 37, 38, 39, 40, 41, 42] rfl (by decide +kernel) (by decide +kernel)
set_option maxRecDepth 100000 in
set_option maxHeartbeats 4000000 in
theorem gL_law_X8_decodedSymbol : GoodIn wsL_law (wsV RL 315 RX8 yX8_decodedSymbol wsX8_decodedSymbol) := goodIn_app (goodIn_g _ [5, 1356, 0, 0] [3, 0, 1, 2] rfl (by decide +kernel) (by decide +kernel)) ggL_law_X8_decodedSymbol
set_option maxRecDepth 100000 in
set_option maxHeartbeats 4000000 in
theorem ggL_law_X7_longestDecodedRun : GoodIn wsL_law wsX7_longestDecodedRun := goodIn_g _ [2, 20, 182, 22, 0, 102, 320, 589, 0, 123, 0, 104, 0, 0, 0, 0, 0, 0, 0, 0, 0, 0] [9, 2, 1, 8, 10, 7, 5, 4, 6, 0, 3, 11, 12, 13, 14, 15, 16, 17, 18, 19, 20, 21] rfl (by decide +kernel) (by decide +kernel)
set_option maxRecDepth 100000 in
set_option maxHeartbeats 4000000 in
theorem gL_law_X7_longestDecodedRun : GoodIn wsL_law (wsV RL 316 RX7 yX7_longestDecodedRun wsX7_longestDecodedRun) := goodIn_app (goodIn_g _ [2, 1363, 0, 0] [3, 0, 1, 2] rfl (by decide +kernel) (by decide +kernel)) ggL_law_X7_longestDecodedRun
set_option maxRecDepth 100000 in
set_option maxHeartbeats 4000000 in
theorem ggL_law_X8_longestDecodedRun : GoodIn wsL_law wsX8_longestDecodedRun := goodIn_g _ [5, 133, 29, 4, 0, 0, 0, 232, 52, 0, 0, 908, 111, 0, 0, 0, 0, 0, 0, 0, 0, 0, 0, 0, 0, 0, 0, 0, 0, 0, 0, 0, 0, 0, 0, 0, 0, 0, 0] [5, 2, 11, 7, 8, 9, 10, 1, 3, 4, 6, 0, 12, 13, 14, 15, 16, 17, 18, 19, 20, 21, 22, 23, 24, 25, 26, 27, 28, 29, 30, 31, 32, 33, 34, 35, 36, 37, 38] rfl (by decide +kernel) (by decide +kernel)
set_option maxRecDepth 100000 in
set_option maxHeartbeats 4000000 in
theorem gL_law_X8_longestDecodedRun : GoodIn wsL_law (wsV RL 319 RX8 yX8_longestDecodedRun wsX8_longestDecodedRun) := goodIn_app (goodIn_g _ [5, 1365, 0, 0] [3, 0, 1, 2] rfl (by decide +kernel) (by decide +kernel)) ggL_law_X8_longestDecodedRun
set_option maxRecDepth 100000 in
set_option maxHeartbeats 4000000 in
theorem ggL_law_X7_restoredCount : GoodIn wsL_law wsX7_restoredCount := goodIn_g _ [2, 15, 7, 0, 18, 8, 0, 0, 0, 0, 10, 0, 0, 20, 0, 0, 0, 0, 0, 0, 0, 0, 0, 0, 0, 0, 0, 51, 0, 69, 0, 112, 0, 0, 5, 0, 0, 0, 0, 0, 0, 7, 0, 0, 25, 0, 0, 0, 211, 0, 0, 0, 0, 0, 6, 0, 0, 0, 0, 0, 0, 0, 0, 0, 0, 0, 0, 0, 0, 0, 0, 0, 0, 0, 0, 0, 0, 0, 0, 0, 0, 0, 0, 729, 0, 0, 0, 0, 92, 0, 0, 0, 0, 0, 0, 0, 0, 0, 0, 27, 0, 0, 0, 0, 0, 0, 0, 0, 0, 0, 0, 0, 0, 4, 0, 0, 0, 13, 0, 0, 0, 0, 0, 0, 0] [36, 2, 6, 1, 14, 27, 28, 29, 30, 69, 8, 9, 51, 12, 13, 15, 16, 17, 18, 19, 20, 21, 22, 23, 24, 25, 26, 82, 83, 35, 37, 66, 67, 68, 71, 72, 73, 74, 75, 76, 77, 53, 54, 55, 79, 80, 81, 60, 3, 4, 5, 7, 10, 11, 38, 39, 40, 41, 42, 43, 44, 45, 46, 47, 48, 49, 50, 52, 56, 57, 58, 59, 61, 62, 63, 64, 65, 70, 78, 84, 85, 86, 87, 0, 31, 32, 33, 34, 88, 89, 90, 91, 92, 93, 94, 95, 96, 97, 98, 99, 100, 101, 102, 103, 104, 105, 106, 107, 108, 109, 110, 111, 112, 113, 114, 115, 116, 117, 118, 119, 120, 121, 122, 123, 124] rfl (by decide +kernel) (by decide +kernel)
set_option maxRecDepth 100000 in
set_option maxHeartbeats 4000000 in
theorem gL_law_X7_restoredCount : GoodIn wsL_law (wsV RL 320 RX7 yX7_restoredCount wsX7_restoredCount) := goodIn_app (goodIn_g _ [2, 1372, 0, 0] [3, 0, 1, 2] rfl (by decide +kernel) (by decide +kernel)) ggL_law_X7_restoredCount
set_option maxRecDepth 100000 in
set_option maxHeartbeats 4000000 in
theorem ggL_law_X8_restoredCount : GoodIn wsL_law wsX8_restoredCount := goodIn_g _ [5, 124, 5, 0, 0, 30, 4, 0, 0, 0, 18, 0, 0, 323, 0, 0, 0, 15, 0, 0, 0, 8, 0, 0, 0, 107, 0, 0, 0, 0, 0, 0, 0, 0, 0, 0, 0, 0, 0, 0, 0, 0, 0, 0, 0, 0, 0, 0, 0, 0, 0, 0, 0, 0, 0, 0, 0, 0, 0, 0, 0, 0, 0, 0, 0, 0, 0, 0, 0, 0, 0, 0, 0, 0, 0, 0, 671, 0, 0, 0, 0, 95, 0, 0, 0, 0, 0, 0, 0, 0, 0, 0, 0, 0, 0, 0, 0, 0, 0, 0, 0, 0, 0, 0, 0, 0, 0, 0] [5, 7, 49, 66, 75, 80, 76, 77, 78, 79, 26, 27, 28, 18, 19, 20, 21, 50, 51, 52, 53, 37, 38, 39, 40, 8, 9, 10, 11, 12, 13, 1, 14, 15, 16, 17, 22, 23, 24, 25, 29, 30, 31, 32, 33, 34, 35, 36, 41, 42, 43, 44, 45, 46, 47, 48, 54, 55, 56, 57, 58, 59, 60, 61, 62, 63, 64, 65, 67, 68, 69, 70, 71, 72, 73, 74, 0, 2, 3, 4, 6, 81, 82, 83, 84, 85, 86, 87, 88, 89, 90, 91, 92, 93, 94, 95, 96, 97, 98, 99, 100, 101, 102, 103, 104, 105, 106, 107] rfl (by decide +kernel) (by decide +kernel)
set_option maxRecDepth 100000 in
set_option maxHeartbeats 4000000 in
theorem gL_law_X8_restoredCount : GoodIn wsL_law (wsV RL 323 RX8 yX8_restoredCount wsX8_restoredCount) := goodIn_app (goodIn_g _ [5, 1377, 0, 0] [3, 0, 1, 2] rfl (by decide +kernel) (by decide +kernel)) ggL_law_X8_restoredCount
set_option maxRecDepth 100000 in
set_option maxHeartbeats 4000000 in
theorem ggL_law_X7_isRestored : GoodIn wsL_law wsX7_isRestored := goodIn_g _ [2, 14, 0, 7, 0, 18, 0, 0, 6, 0, 0, 0, 0, 10, 0, 0, 20, 0, 0, 0, 0, 0, 0, 0, 0, 0, 0, 0, 0, 0, 4, 46, 0, 69, 0, 102, 9, 0, 0, 5, 0, 0, 0, 0, 0, 0, 6, 0, 0, 0, 25, 0, 0, 0, 211, 0, 0, 0, 0, 0, 6, 0, 0, 0, 0, 0, 0, 0, 0, 0, 0, 0, 0, 0, 0, 0, 0, 0, 0, 0, 0, 0, 0, 0, 0, 0, 0, 0, 0, 674, 0, 0, 0, 52, 0, 0, 0, 11, 80, 0, 0, 0, 0, 0, 0, 0, 0, 0, 0, 27, 0, 0, 0, 0, 0, 0, 0, 0, 0, 0, 0, 0, 0, 4, 0, 0, 0, 13, 0, 0, 0, 0, 0, 0, 0] [36, 91, 2, 6, 1, 14, 95, 93, 27, 28, 29, 30, 69, 8, 9, 51, 12, 13, 15, 16, 17, 18, 19, 20, 21, 22, 23, 24, 25, 26, 94, 82, 83, 35, 37, 97, 66, 67, 68, 71, 72, 73, 74, 75, 76, 77, 96, 53, 54, 55, 79, 80, 81, 60, 3, 4, 5, 7, 10, 11, 38, 39, 40, 41, 42, 43, 44, 45, 46, 47, 48, 49, 50, 52, 56, 57, 58, 59, 61, 62, 63, 64, 65, 70, 78, 84, 85, 86, 87, 88, 89, 90, 92, 31, 32, 33, 34, 0, 98, 99, 100, 101, 102, 103, 104, 105, 106, 107, 108, 109, 110, 111, 112, 113, 114, 115, 116, 117, 118, 119, 120, 121, 122, 123, 124, 125, 126, 127, 128, 129, 130, 131, 132, 133, 134] rfl (by decide +kernel) (by decide +kernel)
set_option maxRecDepth 100000 in
set_option maxHeartbeats 4000000 in
theorem gL_law_X7_isRestored : GoodIn wsL_law (wsV RL 324 RX7 yX7_isRestored wsX7_isRestored) := goodIn_app (goodIn_g _ [2, 1388, 0, 0] [3, 0, 1, 2] rfl (by decide +kernel) (by decide +kernel)) ggL_law_X7_isRestored
set_option maxRecDepth 100000 in
set_option maxHeartbeats 4000000 in
theorem ggL_law_X8_isRestored : GoodIn wsL_law wsX8_isRestored := goodIn_g _ [5, 124, 5, 0, 0, 30, 26, 0, 0, 323, 0, 0, 0, 15, 0, 0, 0, 8, 0, 0, 0, 107, 0, 0, 0, 0, 0, 0, 0, 0, 0, 0, 0, 0, 0, 0, 0, 0, 0, 0, 0, 0, 0, 0, 0, 0, 0, 0, 0, 0, 0, 0, 0, 0, 0, 0, 0, 0, 0, 0, 0, 0, 0, 0, 0, 0, 0, 0, 0, 0, 0, 0, 255, 0, 0, 0, 413, 0, 0, 0, 7, 0, 0, 0, 0, 83, 0, 0, 0, 0, 0, 0, 0, 0, 0, 0, 0, 0, 0, 0, 0, 0, 0, 0, 0, 0, 0, 0, 0, 0, 0, 0] [6, 2, 49, 66, 75, 80, 26, 27, 28, 18, 19, 20, 21, 50, 51, 52, 53, 37, 38, 39, 40, 8, 9, 10, 11, 12, 13, 1, 14, 15, 16, 17, 22, 23, 24, 25, 29, 30, 31, 32, 33, 34, 35, 36, 41, 42, 43, 44, 45, 46, 47, 48, 54, 55, 56, 57, 58, 59, 60, 61, 62, 63, 64, 65, 67, 68, 69, 70, 71, 72, 73, 74, 76, 77, 78, 79, 3, 4, 5, 7, 0, 81, 82, 83, 84, 85, 86, 87, 88, 89, 90, 91, 92, 93, 94, 95, 96, 97, 98, 99, 100, 101, 102, 103, 104, 105, 106, 107, 108, 109, 110, 111] rfl (by decide +kernel) (by decide +kernel)
set_option maxRecDepth 100000 in
set_option maxHeartbeats 4000000 in
theorem gL_law_X8_isRestored : GoodIn wsL_law (wsV RL 327 RX8 yX8_isRestored wsX8_isRestored) := goodIn_app (goodIn_g _ [5, 1389, 0, 0] [3, 0, 1, 2] rfl (by decide +kernel) (by decide +kernel)) ggL_law_X8_isRestored
set_option maxRecDepth 100000 in
set_option maxHeartbeats 4000000 in
theorem ggL_law_X7_setupLength : GoodIn wsL_law wsX7_setupLength := goodIn_g _ [2, 15, 19, 0, 45, 72, 0, 69, 0, 22, 0, 0, 0, 0, 0, 0, 0, 0, 0, 0, 1, 0, 0, 0, 0, 0, 0, 0, 0, 0, 0, 0, 0, 0, 0, 0, 0, 0, 0, 0, 0, 0, 0, 0, 0, 0, 0, 0, 0, 0, 0, 0, 0, 0, 0, 0, 18, 0, 1085, 0, 0, 0, 0, 0, 0, 0, 0, 0, 0, 0, 0, 0, 0, 0, 0, 0, 0, 0, 0, 0, 0, 0, 45, 0, 0, 0, 0, 0, 0, 0, 0, 0, 0, 27, 0, 0, 0, 0, 0, 0, 0, 0, 0, 0, 0, 0, 0, 19, 0, 0, 0, 0, 0, 0, 0, 0, 0] [68, 2, 6, 1, 66, 67, 69, 80, 81, 14, 15, 16, 17, 18, 19, 20, 21, 22, 23, 24, 26, 27, 28, 29, 30, 31, 32, 33, 34, 35, 36, 37, 38, 39, 40, 41, 42, 43, 44, 45, 46, 47, 48, 49, 50, 51, 52, 53, 54, 55, 56, 57, 58, 59, 60, 61, 74, 75, 0, 3, 4, 5, 7, 8, 9, 10, 11, 12, 13, 25, 62, 63, 64, 65, 70, 71, 72, 73, 76, 77, 78, 79, 82, 83, 84, 85, 86, 87, 88, 89, 90, 91, 92, 95, 96, 97, 98, 99, 100, 101, 102, 103, 104, 105, 106, 107, 108, 93, 94, 109, 110, 111, 112, 113, 114, 115, 116] rfl (by decide +kernel) (by decide +kernel)
set_option maxRecDepth 100000 in
set_option maxHeartbeats 4000000 in
theorem gL_law_X7_setupLength : GoodIn wsL_law (wsV RL 328 RX7 yX7_setupLength wsX7_setupLength) := goodIn_app (goodIn_g _ [2, 1400, 0, 0] [3, 0, 1, 2] rfl (by decide +kernel) (by decide +kernel)) ggL_law_X7_setupLength
set_option maxRecDepth 100000 in
set_option maxHeartbeats 4000000 in
theorem ggL_law_X8_setupLength : GoodIn wsL_law wsX8_setupLength := goodIn_g _ [5, 124, 9, 28, 4, 0, 0, 0, 268, 27, 0, 0, 16, 939, 0, 0, 0, 0, 0, 0, 0, 0, 0, 0, 0, 0, 0, 0, 0, 0, 0, 0, 0, 0, 0, 0, 0, 0, 0, 0, 0, 0, 0, 0, 22, 0, 0, 0, 0, 0, 0, 0, 0, 0, 0, 0, 0, 0, 0, 0, 0, 0, 0, 0, 0, 0, 0, 0, 0, 0, 0] [5, 7, 22, 43, 39, 40, 41, 42, 12, 31, 32, 33, 38, 0, 1, 2, 3, 4, 6, 8, 9, 10, 11, 13, 14, 15, 16, 17, 18, 19, 20, 21, 23, 24, 25, 26, 27, 28, 29, 30, 34, 35, 36, 37, 44, 45, 46, 47, 48, 49, 50, 51, 52, 53, 54, 55, 56, 57, 58, 59, 60, 61, 62, 63, 64, 65, 66, 67, 68, 69, 70] rfl (by decide +kernel) (by decide +kernel)
set_option maxRecDepth 100000 in
set_option maxHeartbeats 4000000 in
theorem gL_law_X8_setupLength : GoodIn wsL_law (wsV RL 331 RX8 yX8_setupLength wsX8_setupLength) := goodIn_app (goodIn_g _ [5, 1424, 0, 0] [3, 0, 1, 2] rfl (by decide +kernel) (by decide +kernel)) ggL_law_X8_setupLength
set_option maxRecDepth 100000 in
set_option maxHeartbeats 4000000 in
theorem ggL_law_L_setupByte : GoodIn wsL_law wsL_setupByte := goodIn_ca (goodIn_g _ [2, 15, 19, 0, 45, 72, 0, 69, 0, 22, 0, 0, 0, 0, 0, 0, 0, 0, 0, 0, 1, 0, 0, 0, 0, 0, 0, 0, 0, 0, 0, 0, 0, 0, 0, 0, 0, 0, 0, 0, 0, 0, 0, 0, 0, 0, 0, 0, 0, 0, 0, 0, 0, 0, 0, 0, 18, 0, 12, 652, 8, 0, 0, 0, 0, 407, 0, 0, 0, 0, 0, 0, 0, 0, 0, 0, 0, 0, 0, 0, 0, 0, 0, 0, 0, 0, 0, 0, 36, 0, 0, 0, 0, 4, 0, 0, 0, 0, 0, 0, 0, 0, 0, 0, 27, 0, 0, 0, 0, 0, 0, 0, 0, 0, 0, 0, 0, 0, 19, 0, 0, 0, 0, 0, 0, 0, 0, 0] [5, 8, 12, 7, 72, 73, 74, 85, 86, 20, 21, 22, 23, 24, 25, 26, 27, 28, 29, 30, 32, 33, 34, 35, 36, 37, 38, 39, 40, 41, 42, 43, 44, 45, 46, 47, 48, 49, 50, 51, 52, 53, 54, 55, 56, 57, 58, 59, 60, 61, 62, 63, 64, 65, 66, 67, 79, 80, 92, 1, 87, 88, 89, 90, 91, 9, 10, 11, 13, 14, 15, 16, 17, 18, 19, 31, 68, 69, 70, 71, 75, 76, 77, 78, 81, 82, 83, 84, 0, 2, 3, 4, 6, 93, 94, 95, 96, 97, 98, 99, 100, 101, 102, 103, 106, 107, 108, 109, 110, 111, 112, 113, 114, 115, 116, 117, 118, 119, 104, 105, 120, 121, 122, 123, 124, 125, 126, 127] rfl (by decide +kernel) (by decide +kernel)) (goodIn_sub (fun _ h => List.mem_append_right _ h) (by decide +kernel))
set_option maxRecDepth 100000 in
set_option maxHeartbeats 4000000 in
theorem gL_law_L_setupByte : GoodIn wsL_law (va_wsS RL 332 yL_setupByte wsL_setupByte) := goodIn_app (goodIn_g _ [143, 1320, 0] [2, 0, 1] rfl (by decide +kernel) (by decide +kernel)) ggL_law_L_setupByte
set_option maxRecDepth 100000 in
set_option maxHeartbeats 4000000 in
theorem ggL_law_X8_setupByte : GoodIn wsL_law wsX8_setupByte := goodIn_g _ [5, 124, 9, 24, 0, 0, 0, 0, 4, 0, 0, 0, 18, 0, 0, 247, 27, 0, 0, 16, 940, 0, 0, 0, 0, 0, 0, 0, 0, 0, 0, 0, 0, 0, 0, 0, 0, 0, 0, 0, 0, 0, 0, 0, 0, 0, 0, 0, 0, 0, 10, 11, 0, 0, 0, 0, 0, 0, 0, 0, 0, 0, 0, 0, 0, 0, 0, 0, 0, 0, 0, 0, 0, 0, 0, 0, 0, 0] [6, 8, 2, 42, 43, 44, 45, 46, 47, 48, 49, 50, 39, 40, 41, 13, 31, 32, 33, 38, 1, 3, 4, 5, 7, 9, 10, 11, 12, 14, 15, 16, 17, 18, 19, 20, 21, 22, 23, 24, 25, 26, 27, 28, 29, 30, 34, 35, 36, 37, 0, 51, 52, 53, 54, 55, 56, 57, 58, 59, 60, 61, 62, 63, 64, 65, 66, 67, 68, 69, 70, 71, 72, 73, 74, 75, 76, 77] rfl (by decide +kernel) (by decide +kernel)
set_option maxRecDepth 100000 in
set_option maxHeartbeats 4000000 in
theorem gL_law_X8_setupByte : GoodIn wsL_law (wsV RL 334 RX8 yX8_setupByte wsX8_setupByte) := goodIn_app (goodIn_g _ [5, 1465, 0, 0] [3, 0, 1, 2] rfl (by decide +kernel) (by decide +kernel)) ggL_law_X8_setupByte
