set_option maxRecDepth 100000 in
set_option maxHeartbeats 4000000 in
theorem gL_law_X7_longestPhrase : GoodIn wsL_law (wsV RL 221 RX7 yX7_longestPhrase wsX7_longestPhrase) := goodIn_app (goodIn_g _ [2, 1060, 0, 0] [3, 0, 1, 2] rfl (by decide +kernel) (by decide +kernel)) ggL_law_X7_longestPhrase
set_option maxRecDepth 100000 in
set_option maxHeartbeats 4000000 in
theorem ggL_law_X8_longestPhrase : GoodIn wsL_law wsX8_longestPhrase := goodIn_g _ [5, 124, 38, 4, 0, 0, 0, 344, 0, 0, 0, 11, 0, 0, 0, 0, 0, 0, 0, 529, 411, 0, 0, 0, 0, 0, 0, 0, 0, 0, 0, 0, 0, 0, 0, 0, 0, 0, 0, 0, 0, 0, 0, 0, 0, 0, 0] [5, 1, 19, 15, 16, 17, 18, 7, 8, 9, 10, 2, 3, 4, 6, 11, 12, 13, 14, 0, 20, 21, 22, 23, 24, 25, 26, 27, 28, 29, 30, 31, 32, 33, 34, 35, 36, 37, 38, 39, 40, 41, 42, 43, 44, 45, 46] rfl (by decide +kernel) (by decide +kernel)
set_option maxRecDepth 100000 in
set_option maxHeartbeats 4000000 in
theorem gL_law_X8_longestPhrase : GoodIn wsL_law (wsV RL 224 RX8 yX8_longestPhrase wsX8_longestPhrase) := goodIn_app (goodIn_g _ [5, 1065, 0, 0] [3, 0, 1, 2] rfl (by decide +kernel) (by decide +kernel)) ggL_law_X8_longestPhrase
set_option maxRecDepth 100000 in
set_option maxHeartbeats 4000000 in
theorem ggL_law_L_usesOf : GoodIn wsL_law wsL_usesOf := goodIn_ca (goodIn_g _ [2, 14, 0, 31, 61, 116, 0, 755, 4, 0, 0, 0, 0, 0, 0, 0, 0, 77, 0, 0, 0, 0, 0, 0, 0, 0, 389, 0, 0, 0, 0, 0, 0, 0, 0, 0, 0, 27, 0, 0, 0, 0, 0, 0, 0, 0, 0, 0, 0, 0, 0, 21, 0, 0, 0, 0, 0, 0, 0] [5, 20, 7, 23, 22, 24, 25, 1, 8, 9, 10, 11, 12, 13, 14, 15, 16, 0, 2, 3, 4, 6, 17, 18, 19, 21, 26, 27, 28, 29, 30, 31, 32, 33, 34, 35, 36, 37, 38, 39, 40, 41, 42, 43, 44, 45, 46, 47, 48, 49, 50, 51, 52, 53, 54, 55, 56, 57, 58] rfl (by decide +kernel) (by decide +kernel)) (goodIn_sub (fun _ h => List.mem_append_right _ h) (by decide +kernel))
set_option maxRecDepth 100000 in
set_option maxHeartbeats 4000000 in
theorem gL_law_L_usesOf : GoodIn wsL_law (va_wsS RL 225 yL_usesOf wsL_usesOf) := goodIn_app (goodIn_g _ [143, 931, 0] [2, 0, 1] rfl (by decide +kernel) (by decide +kernel)) ggL_law_L_usesOf
set_option maxRecDepth 100000 in
set_option maxHeartbeats 4000000 in
theorem ggL_law_X8_usesOf : GoodIn wsL_law wsX8_usesOf := goodIn_g _ [5, 124, 34, 0, 0, 0, 0, 4, 0, 0, 0, 18, 0, 0, 378, 0, 0, 0, 424, 0, 0, 0, 80, 396, 0, 0, 0, 0, 0, 0, 0, 0, 0, 0, 0, 0, 0, 0, 0, 0, 0, 0, 0, 0, 0, 0, 0, 0, 0, 0] [5, 1, 10, 11, 12, 13, 14, 19, 20, 21, 22, 7, 8, 9, 15, 16, 17, 18, 2, 3, 4, 6, 0, 23, 24, 25, 26, 27, 28, 29, 30, 31, 32, 33, 34, 35, 36, 37, 38, 39, 40, 41, 42, 43, 44, 45, 46, 47, 48, 49] rfl (by decide +kernel) (by decide +kernel)
set_option maxRecDepth 100000 in
set_option maxHeartbeats 4000000 in
theorem gL_law_X8_usesOf : GoodIn wsL_law (wsV RL 227 RX8 yX8_usesOf wsX8_usesOf) := goodIn_app (goodIn_g _ [5, 1080, 0, 0] [3, 0, 1, 2] rfl (by decide +kernel) (by decide +kernel)) ggL_law_X8_usesOf
set_option maxRecDepth 100000 in
set_option maxHeartbeats 4000000 in
theorem ggL_law_L_findTape : GoodIn wsL_law wsL_findTape := goodIn_ca (goodIn_g _ [2, 11, 3, 27, 9, 1, 0, 36, 55, 76, 0, 102, 9, 0, 0, 392, 0, 0, 0, 115, 4, 0, 179, 48, 0, 0, 0, 0, 0, 0, 0, 0, 374, 0, 0, 0, 0, 0, 0, 0, 0, 0, 0, 27, 0, 0, 0, 0, 0, 0, 0, 0, 0, 0, 0, 0, 0, 21, 0, 0, 0, 0, 0, 0, 0] [5, 14, 15, 26, 30, 28, 31, 29, 13, 17, 18, 16, 24, 25, 27, 19, 20, 21, 22, 1, 7, 8, 23, 0, 2, 3, 4, 6, 9, 10, 11, 12, 32, 33, 34, 35, 36, 37, 38, 39, 40, 41, 42, 43, 44, 45, 46, 47, 48, 49, 50, 51, 52, 53, 54, 55, 56, 57, 58, 59, 60, 61, 62, 63, 64] rfl (by decide +kernel) (by decide +kernel)) (goodIn_sub (fun _ h => List.mem_append_left _ (List.mem_append_right _ h)) (by decide +kernel))
set_option maxRecDepth 100000 in
set_option maxHeartbeats 4000000 in
theorem gL_law_L_findTape : GoodIn wsL_law (va_wsS RL 228 yL_findTape wsL_findTape) := goodIn_app (goodIn_g _ [143, 946, 0] [2, 0, 1] rfl (by decide +kernel) (by decide +kernel)) ggL_law_L_findTape
set_option maxRecDepth 100000 in
set_option maxHeartbeats 4000000 in
theorem ggL_law_X8_findTape : GoodIn wsL_law wsX8_findTape := goodIn_g _ [5, 122, 1, 33, 0, 0, 0, 0, 0, 4, 0, 0, 0, 18, 0, 0, 299, 0, 0, 0, 0, 0, 0, 0, 0, 0, 0, 0, 8, 0, 0, 0, 0, 0, 0, 0, 578, 0, 0, 0, 0, 377, 0, 0, 0, 0, 0, 0, 0, 0, 0, 0, 0, 0, 0, 0, 0, 0, 0, 0, 0, 0, 0, 0, 0, 0, 0, 0] [4, 7, 20, 6, 32, 33, 34, 35, 36, 37, 38, 39, 40, 21, 22, 23, 8, 9, 10, 11, 12, 13, 14, 15, 16, 17, 18, 19, 24, 25, 26, 27, 28, 29, 30, 31, 0, 1, 2, 3, 5, 41, 42, 43, 44, 45, 46, 47, 48, 49, 50, 51, 52, 53, 54, 55, 56, 57, 58, 59, 60, 61, 62, 63, 64, 65, 66, 67] rfl (by decide +kernel) (by decide +kernel)
set_option maxRecDepth 100000 in
set_option maxHeartbeats 4000000 in
theorem gL_law_X8_findTape : GoodIn wsL_law (wsV RL 230 RX8 yX8_findTape wsX8_findTape) := goodIn_app (goodIn_g _ [5, 1095, 0, 0] [3, 0, 1, 2] rfl (by decide +kernel) (by decide +kernel)) ggL_law_X8_findTape
set_option maxRecDepth 100000 in
set_option maxHeartbeats 4000000 in
theorem ggL_law_X7_hasPhrase : GoodIn wsL_law wsX7_hasPhrase := goodIn_g _ [18, 1093, 362, 0, 0, 0, 0, 0, 0, 0, 0, 0, 0, 27, 0, 0, 0, 0, 0, 0, 0, 0, 0, 0, 0, 0, 0] [1, 0, 2, 3, 4, 5, 6, 7, 8, 9, 10, 11, 12, 13, 14, 15, 16, 17, 18, 19, 20, 21, 22, 23, 24, 25, 26] rfl (by decide +kernel) (by decide +kernel)
set_option maxRecDepth 100000 in
set_option maxHeartbeats 4000000 in
theorem gL_law_X7_hasPhrase : GoodIn wsL_law (wsV RL 231 RX7 yX7_hasPhrase wsX7_hasPhrase) := goodIn_app (goodIn_g _ [2, 1106, 0, 0] [3, 0, 1, 2] rfl (by decide +kernel) (by decide +kernel)) ggL_law_X7_hasPhrase
set_option maxRecDepth 100000 in
set_option maxHeartbeats 4000000 in
theorem ggL_law_X8_hasPhrase : GoodIn wsL_law wsX8_hasPhrase := goodIn_g _ [5, 124, 38, 800, 0, 0, 0, 142, 369, 0, 0, 0, 0, 0, 0, 0, 0, 0, 0, 0, 0, 0, 0, 0, 0, 0, 0, 0, 0, 0, 0, 0, 0, 0, 0] [5, 1, 7, 2, 3, 4, 6, 0, 8, 9, 10, 11, 12, 13, 14, 15, 16, 17, 18, 19, 20, 21, 22, 23, 24, 25, 26, 27, 28, 29, 30, 31, 32, 33, 34] rfl (by decide +kernel) (by decide +kernel)
set_option maxRecDepth 100000 in
set_option maxHeartbeats 4000000 in
theorem gL_law_X8_hasPhrase : GoodIn wsL_law (wsV RL 234 RX8 yX8_hasPhrase wsX8_hasPhrase) := goodIn_app (goodIn_g _ [5, 1107, 0, 0] [3, 0, 1, 2] rfl (by decide +kernel) (by decide +kernel)) ggL_law_X8_hasPhrase
set_option maxRecDepth 100000 in
set_option maxHeartbeats 4000000 in
theorem ggL_law_L_currentPhrase : GoodIn wsL_law wsL_currentPhrase := goodIn_ca (goodIn_g _ [2, 15, 838, 4, 0, 255, 0, 0, 0, 0, 351, 0, 0, 0, 0, 0, 0, 0, 0, 0, 0, 27, 0, 0, 0, 0, 0, 0, 0, 0, 0, 0, 0, 0, 0] [5, 9, 1, 7, 8, 0, 2, 3, 4, 6, 10, 11, 12, 13, 14, 15, 16, 17, 18, 19, 20, 21, 22, 23, 24, 25, 26, 27, 28, 29, 30, 31, 32, 33, 34] rfl (by decide +kernel) (by decide +kernel)) (goodIn_sub (fun _ h => List.mem_append_left _ (List.mem_append_right _ h)) (by decide +kernel))
set_option maxRecDepth 100000 in
set_option maxHeartbeats 4000000 in
theorem gL_law_L_currentPhrase : GoodIn wsL_law (va_wsS RL 235 yL_currentPhrase wsL_currentPhrase) := goodIn_app (goodIn_g _ [143, 973, 0] [2, 0, 1] rfl (by decide +kernel) (by decide +kernel)) ggL_law_L_currentPhrase
set_option maxRecDepth 100000 in
set_option maxHeartbeats 4000000 in
theorem ggL_law_X8_currentPhrase : GoodIn wsL_law wsX8_currentPhrase := goodIn_g _ [5, 124, 34, 0, 0, 0, 0, 4, 0, 0, 0, 949, 358, 0, 0, 0, 0, 0, 0, 0, 0, 0, 0, 0, 0, 0, 0, 0, 0, 0, 0, 0, 0, 0, 0, 0, 0, 0, 0] [5, 1, 2, 3, 4, 6, 7, 8, 9, 10, 11, 0, 12, 13, 14, 15, 16, 17, 18, 19, 20, 21, 22, 23, 24, 25, 26, 27, 28, 29, 30, 31, 32, 33, 34, 35, 36, 37, 38] rfl (by decide +kernel) (by decide +kernel)
set_option maxRecDepth 100000 in
set_option maxHeartbeats 4000000 in
theorem gL_law_X8_currentPhrase : GoodIn wsL_law (wsV RL 237 RX8 yX8_currentPhrase wsX8_currentPhrase) := goodIn_app (goodIn_g _ [5, 1118, 0, 0] [3, 0, 1, 2] rfl (by decide +kernel) (by decide +kernel)) ggL_law_X8_currentPhrase
set_option maxRecDepth 100000 in
set_option maxHeartbeats 4000000 in
theorem ggL_law_L_codesIfEncoded : GoodIn wsL_law wsL_codesIfEncoded := goodIn_ca (goodIn_g _ [2, 14, 0, 27, 0, 0, 7, 0, 0, 0, 30, 0, 4, 0, 4, 18, 0, 62, 4, 0, 37, 0, 108, 0, 0, 0, 0, 0, 0, 0, 0, 0, 0, 0, 0, 0, 0, 0, 0, 0, 0, 0, 0, 0, 0, 0, 0, 0, 0, 0, 0, 0, 0, 0, 0, 0, 0, 0, 0, 358, 0, 0, 0, 0, 0, 0, 0, 388, 0, 0, 0, 0, 0, 339, 0, 0, 0, 0, 0, 0, 0, 0, 0, 0, 27, 0, 0, 0, 0, 0, 0, 0, 0, 0, 0, 0, 0, 0, 21, 0, 0, 0, 0, 0, 0, 0] [5, 21, 7, 28, 24, 23, 32, 64, 30, 33, 40, 43, 31, 53, 48, 42, 41, 1, 12, 13, 34, 35, 19, 20, 22, 25, 26, 27, 29, 36, 37, 38, 39, 44, 45, 46, 47, 49, 50, 51, 52, 54, 55, 56, 57, 58, 59, 60, 61, 62, 63, 65, 66, 67, 68, 69, 70, 71, 72, 8, 9, 10, 11, 14, 15, 16, 17, 0, 2, 3, 4, 6, 18, 73, 74, 75, 76, 77, 78, 79, 80, 81, 82, 83, 84, 85, 86, 87, 88, 89, 90, 91, 92, 93, 94, 95, 96, 97, 98, 99, 100, 101, 102, 103, 104, 105] rfl (by decide +kernel) (by decide +kernel)) (goodIn_sub (fun _ h => List.mem_append_left _ (List.mem_append_left _ (List.mem_append_right _ h))) (by decide +kernel))
set_option maxRecDepth 100000 in
set_option maxHeartbeats 4000000 in
theorem gL_law_L_codesIfEncoded : GoodIn wsL_law (va_wsS RL 238 yL_codesIfEncoded wsL_codesIfEncoded) := goodIn_app (goodIn_g _ [143, 984, 0] [2, 0, 1] rfl (by decide +kernel) (by decide +kernel)) ggL_law_L_codesIfEncoded
set_option maxRecDepth 100000 in
set_option maxHeartbeats 4000000 in
theorem ggL_law_X8_codesIfEncoded : GoodIn wsL_law wsX8_codesIfEncoded := goodIn_g _ [5, 124, 34, 0, 0, 0, 0, 4, 0, 0, 0, 18, 0, 0, 307, 0, 0, 0, 8, 0, 0, 0, 0, 0, 0, 0, 8, 0, 0, 0, 0, 0, 0, 0, 0, 0, 0, 4, 0, 0, 0, 0, 0, 0, 0, 4, 0, 0, 0, 0, 0, 0, 0, 0, 0, 0, 0, 0, 0, 0, 0, 0, 0, 0, 0, 0, 0, 0, 0, 0, 0, 0, 0, 550, 0, 0, 0, 0, 0, 0, 0, 0, 0, 0, 0, 0, 0, 0, 0, 0, 330, 0, 0, 0, 0, 0, 0, 0, 0, 0, 0, 0, 0, 0, 0, 0, 0, 0, 0, 0, 0, 0, 0, 0, 0, 0, 0] [4, 6, 10, 11, 12, 13, 14, 86, 87, 88, 89, 7, 8, 9, 1, 2, 3, 5, 23, 24, 25, 26, 27, 28, 29, 30, 59, 60, 61, 70, 71, 72, 73, 74, 75, 76, 77, 39, 40, 41, 42, 43, 44, 45, 46, 47, 48, 49, 50, 51, 52, 53, 54, 55, 56, 57, 58, 62, 63, 64, 65, 66, 67, 68, 69, 78, 79, 80, 81, 82, 83, 84, 85, 0, 15, 16, 17, 18, 19, 20, 21, 22, 31, 32, 33, 34, 35, 36, 37, 38, 90, 91, 92, 93, 94, 95, 96, 97, 98, 99, 100, 101, 102, 103, 104, 105, 106, 107, 108, 109, 110, 111, 112, 113, 114, 115, 116] rfl (by decide +kernel) (by decide +kernel)
set_option maxRecDepth 100000 in
set_option maxHeartbeats 4000000 in
theorem gL_law_X8_codesIfEncoded : GoodIn wsL_law (wsV RL 240 RX8 yX8_codesIfEncoded wsX8_codesIfEncoded) := goodIn_app (goodIn_g _ [5, 1130, 0, 0] [3, 0, 1, 2] rfl (by decide +kernel) (by decide +kernel)) ggL_law_X8_codesIfEncoded
set_option maxRecDepth 100000 in
set_option maxHeartbeats 4000000 in
theorem ggL_law_L_clearsIfEncoded : GoodIn wsL_law wsL_clearsIfEncoded := goodIn_ca (goodIn_g _ [2, 14, 0, 27, 0, 0, 7, 0, 0, 0, 30, 0, 4, 0, 4, 18, 0, 62, 4, 0, 37, 0, 108, 0, 0, 0, 0, 0, 0, 0, 0, 0, 0, 0, 0, 0, 0, 0, 0, 0, 0, 0, 0, 0, 0, 0, 0, 0, 0, 0, 0, 0, 0, 0, 0, 0, 0, 0, 0, 358, 0, 0, 0, 0, 0, 0, 0, 393, 22, 0, 0, 0, 0, 312, 0, 0, 0, 0, 0, 0, 0, 0, 0, 0, 27, 0, 0, 0, 0, 0, 0, 0, 0, 0, 0, 0, 0, 0, 21, 0, 0, 0, 0, 0, 0, 0] [5, 21, 7, 28, 24, 23, 32, 64, 30, 33, 40, 43, 31, 53, 48, 42, 41, 1, 12, 13, 34, 35, 19, 20, 22, 25, 26, 27, 29, 36, 37, 38, 39, 44, 45, 46, 47, 49, 50, 51, 52, 54, 55, 56, 57, 58, 59, 60, 61, 62, 63, 65, 66, 67, 68, 69, 70, 71, 72, 8, 9, 10, 11, 14, 15, 16, 17, 18, 0, 2, 3, 4, 6, 73, 74, 75, 76, 77, 78, 79, 80, 81, 82, 83, 84, 85, 86, 87, 88, 89, 90, 91, 92, 93, 94, 95, 96, 97, 98, 99, 100, 101, 102, 103, 104, 105] rfl (by decide +kernel) (by decide +kernel)) (goodIn_sub (fun _ h => List.mem_append_left _ (List.mem_append_left _ (List.mem_append_right _ h))) (by decide +kernel))
set_option maxRecDepth 100000 in
set_option maxHeartbeats 4000000 in
theorem gL_law_L_clearsIfEncoded : GoodIn wsL_law (va_wsS RL 241 yL_clearsIfEncoded wsL_clearsIfEncoded) := goodIn_app (goodIn_g _ [143, 1012, 0] [2, 0, 1] rfl (by decide +kernel) (by decide +kernel)) ggL_law_L_clearsIfEncoded
set_option maxRecDepth 100000 in
set_option maxHeartbeats 4000000 in
theorem ggL_law_X8_clearsIfEncoded : GoodIn wsL_law wsX8_clearsIfEncoded := goodIn_g _ [5, 124, 34, 0, 0, 0, 0, 4, 0, 0, 0, 18, 0, 0, 307, 0, 0, 0, 8, 0, 0, 0, 0, 0, 0, 0, 8, 0, 0, 0, 0, 0, 0, 0, 0, 0, 0, 4, 0, 0, 0, 0, 0, 0, 0, 4, 0, 0, 0, 0, 0, 0, 0, 0, 0, 0, 0, 0, 0, 0, 0, 0, 0, 0, 0, 0, 0, 0, 0, 0, 0, 0, 0, 555, 0, 0, 0, 0, 0, 0, 0, 0, 0, 0, 0, 10, 319, 0, 0, 0, 0, 0, 0, 0, 0, 0, 0, 0, 0, 0, 0, 0, 0, 0, 0, 0, 0, 0, 0, 0, 0, 0, 0] [4, 6, 10, 11, 12, 13, 14, 82, 83, 84, 85, 7, 8, 9, 1, 2, 3, 5, 23, 24, 25, 26, 27, 28, 29, 30, 55, 56, 57, 66, 67, 68, 69, 70, 71, 72, 73, 35, 36, 37, 38, 39, 40, 41, 42, 43, 44, 45, 46, 47, 48, 49, 50, 51, 52, 53, 54, 58, 59, 60, 61, 62, 63, 64, 65, 74, 75, 76, 77, 78, 79, 80, 81, 19, 20, 21, 22, 15, 16, 17, 18, 31, 32, 33, 34, 0, 86, 87, 88, 89, 90, 91, 92, 93, 94, 95, 96, 97, 98, 99, 100, 101, 102, 103, 104, 105, 106, 107, 108, 109, 110, 111, 112] rfl (by decide +kernel) (by decide +kernel)
set_option maxRecDepth 100000 in
set_option maxHeartbeats 4000000 in
theorem gL_law_X8_clearsIfEncoded : GoodIn wsL_law (wsV RL 243 RX8 yX8_clearsIfEncoded wsX8_clearsIfEncoded) := goodIn_app (goodIn_g _ [5, 1157, 0, 0] [3, 0, 1, 2] rfl (by decide +kernel) (by decide +kernel)) ggL_law_X8_clearsIfEncoded
set_option maxRecDepth 100000 in
set_option maxHeartbeats 4000000 in
theorem ggL_law_X7_encodedCount : GoodIn wsL_law wsX7_encodedCount := goodIn_g _ [18, 1151, 304, 0, 0, 0, 0, 0, 0, 0, 0, 0, 0, 27, 0, 0, 0, 0, 0, 0, 0, 0, 0, 0, 0, 0, 0] [1, 0, 2, 3, 4, 5, 6, 7, 8, 9, 10, 11, 12, 13, 14, 15, 16, 17, 18, 19, 20, 21, 22, 23, 24, 25, 26] rfl (by decide +kernel) (by decide +kernel)
set_option maxRecDepth 100000 in
set_option maxHeartbeats 4000000 in
theorem gL_law_X7_encodedCount : GoodIn wsL_law (wsV RL 244 RX7 yX7_encodedCount wsX7_encodedCount) := goodIn_app (goodIn_g _ [2, 1164, 0, 0] [3, 0, 1, 2] rfl (by decide +kernel) (by decide +kernel)) ggL_law_X7_encodedCount
set_option maxRecDepth 100000 in
set_option maxHeartbeats 4000000 in
theorem ggL_law_X8_encodedCount : GoodIn wsL_law wsX8_encodedCount := goodIn_g _ [5, 124, 38, 4, 0, 0, 0, 996, 311, 0, 0, 0, 0, 0, 0, 0, 0, 0, 0, 0, 0, 0, 0, 0, 0, 0, 0, 0, 0, 0, 0, 0, 0, 0, 0] [5, 1, 7, 2, 3, 4, 6, 0, 8, 9, 10, 11, 12, 13, 14, 15, 16, 17, 18, 19, 20, 21, 22, 23, 24, 25, 26, 27, 28, 29, 30, 31, 32, 33, 34] rfl (by decide +kernel) (by decide +kernel)
set_option maxRecDepth 100000 in
set_option maxHeartbeats 4000000 in
theorem gL_law_X8_encodedCount : GoodIn wsL_law (wsV RL 247 RX8 yX8_encodedCount wsX8_encodedCount) := goodIn_app (goodIn_g _ [5, 1165, 0, 0] [3, 0, 1, 2] rfl (by decide +kernel) (by decide +kernel)) ggL_law_X8_encodedCount
set_option maxRecDepth 100000 in
set_option maxHeartbeats 4000000 in
theorem ggL_law_L_encodedSymbol : GoodIn wsL_law wsL_encodedSymbol := goodIn_ca (goodIn_g _ [2, 15, 210, 0, 102, 652, 8, 0, 0, 0, 0, 177, 0, 0, 0, 0, 293, 0, 0, 0, 0, 0, 0, 0, 0, 0, 0, 27, 0, 0, 0, 0, 0, 0, 0, 0, 0, 0, 0, 0, 0] [5, 7, 14, 15, 13, 1, 8, 9, 10, 11, 12, 0, 2, 3, 4, 6, 16, 17, 18, 19, 20, 21, 22, 23, 24, 25, 26, 27, 28, 29, 30, 31, 32, 33, 34, 35, 36, 37, 38, 39, 40] rfl (by decide +kernel) (by decide +kernel)) (goodIn_sub (fun _ h => List.mem_append_right _ h) (by decide +kernel))
set_option maxRecDepth 100000 in
set_option maxHeartbeats 4000000 in
theorem gL_law_L_encodedSymbol : GoodIn wsL_law (va_wsS RL 248 yL_encodedSymbol wsL_encodedSymbol) := goodIn_app (goodIn_g _ [143, 1031, 0] [2, 0, 1] rfl (by decide +kernel) (by decide +kernel)) ggL_law_L_encodedSymbol
set_option maxRecDepth 100000 in
set_option maxHeartbeats 4000000 in
theorem ggL_law_X8_encodedSymbol : GoodIn wsL_law wsX8_encodedSymbol := goodIn_g _ [5, 124, 34, 0, 0, 0, 0, 4, 0, 0, 0, 18, 0, 0, 986, 300, 0, 0, 0, 0, 0, 0, 0, 0, 0, 0, 0, 0, 0, 0, 0, 0, 0, 0, 0, 0, 0, 0, 0, 0, 0, 0] [4, 1, 6, 7, 8, 9, 10, 11, 12, 13, 14, 2, 3, 5, 0, 15, 16, 17, 18, 19, 20, 21, 22, 23, 24, 25, 26, 27, 28, 29, 30, 31, 32, 33, 34, 35, 36, 37, 38, 39, 40, 41] rfl (by decide +kernel) (by decide +kernel)
set_option maxRecDepth 100000 in
set_option maxHeartbeats 4000000 in
theorem gL_law_X8_encodedSymbol : GoodIn wsL_law (wsV RL 250 RX8 yX8_encodedSymbol wsX8_encodedSymbol) := goodIn_app (goodIn_g _ [5, 1176, 0, 0] [3, 0, 1, 2] rfl (by decide +kernel) (by decide +kernel)) ggL_law_X8_encodedSymbol
set_option maxRecDepth 100000 in
set_option maxHeartbeats 4000000 in
theorem ggL_law_X7_writtenCount : GoodIn wsL_law wsX7_writtenCount := goodIn_g _ [18, 1170, 285, 0, 0, 0, 0, 0, 0, 0, 0, 0, 0, 27, 0, 0, 0, 0, 0, 0, 0, 0, 0, 0, 0, 0, 0] [1, 0, 2, 3, 4, 5, 6, 7, 8, 9, 10, 11, 12, 13, 14, 15, 16, 17, 18, 19, 20, 21, 22, 23, 24, 25, 26] rfl (by decide +kernel) (by decide +kernel)
set_option maxRecDepth 100000 in
set_option maxHeartbeats 4000000 in
theorem gL_law_X7_writtenCount : GoodIn wsL_law (wsV RL 251 RX7 yX7_writtenCount wsX7_writtenCount) := goodIn_app (goodIn_g _ [2, 1183, 0, 0] [3, 0, 1, 2] rfl (by decide +kernel) (by decide +kernel)) ggL_law_X7_writtenCount
set_option maxRecDepth 100000 in
set_option maxHeartbeats 4000000 in
theorem ggL_law_X8_writtenCount : GoodIn wsL_law wsX8_writtenCount := goodIn_g _ [5, 124, 38, 4, 0, 0, 0, 1015, 292, 0, 0, 0, 0, 0, 0, 0, 0, 0, 0, 0, 0, 0, 0, 0, 0, 0, 0, 0, 0, 0, 0, 0, 0, 0, 0] [5, 1, 7, 2, 3, 4, 6, 0, 8, 9, 10, 11, 12, 13, 14, 15, 16, 17, 18, 19, 20, 21, 22, 23, 24, 25, 26, 27, 28, 29, 30, 31, 32, 33, 34] rfl (by decide +kernel) (by decide +kernel)
set_option maxRecDepth 100000 in
set_option maxHeartbeats 4000000 in
theorem gL_law_X8_writtenCount : GoodIn wsL_law (wsV RL 254 RX8 yX8_writtenCount wsX8_writtenCount) := goodIn_app (goodIn_g _ [5, 1184, 0, 0] [3, 0, 1, 2] rfl (by decide +kernel) (by decide +kernel)) ggL_law_X8_writtenCount
set_option maxRecDepth 100000 in
set_option maxHeartbeats 4000000 in
theorem ggL_law_L_writtenCode : GoodIn wsL_law wsL_writtenCode := goodIn_ca (goodIn_g _ [2, 15, 210, 0, 102, 652, 8, 0, 0, 0, 0, 196, 0, 0, 0, 0, 274, 0, 0, 0, 0, 0, 0, 0, 0, 0, 0, 27, 0, 0, 0, 0, 0, 0, 0, 0, 0, 0, 0, 0, 0] [5, 7, 14, 15, 13, 1, 8, 9, 10, 11, 12, 0, 2, 3, 4, 6, 16, 17, 18, 19, 20, 21, 22, 23, 24, 25, 26, 27, 28, 29, 30, 31, 32, 33, 34, 35, 36, 37, 38, 39, 40] rfl (by decide +kernel) (by decide +kernel)) (goodIn_sub (fun _ h => List.mem_append_right _ h) (by decide +kernel))
set_option maxRecDepth 100000 in
set_option maxHeartbeats 4000000 in
theorem gL_law_L_writtenCode : GoodIn wsL_law (va_wsS RL 255 yL_writtenCode wsL_writtenCode) := goodIn_app (goodIn_g _ [143, 1050, 0] [2, 0, 1] rfl (by decide +kernel) (by decide +kernel)) ggL_law_L_writtenCode
set_option maxRecDepth 100000 in
set_option maxHeartbeats 4000000 in
theorem ggL_law_X8_writtenCode : GoodIn wsL_law wsX8_writtenCode := goodIn_g _ [5, 124, 34, 0, 0, 0, 0, 4, 0, 0, 0, 18, 0, 0, 378, 0, 0, 0, 623, 0, 0, 0, 0, 277, 0, 0, 0, 0, 0, 0, 0, 0, 0, 0, 0, 0, 0, 0, 0, 0, 0, 0, 0, 0, 0, 0, 0, 0, 0, 0] [4, 6, 10, 11, 12, 13, 14, 19, 20, 21, 22, 7, 8, 9, 15, 16, 17, 18, 0, 1, 2, 3, 5, 23, 24, 25, 26, 27, 28, 29, 30, 31, 32, 33, 34, 35, 36, 37, 38, 39, 40, 41, 42, 43, 44, 45, 46, 47, 48, 49] rfl (by decide +kernel) (by decide +kernel)
set_option maxRecDepth 100000 in
set_option maxHeartbeats 4000000 in
theorem gL_law_X8_writtenCode : GoodIn wsL_law (wsV RL 257 RX8 yX8_writtenCode wsX8_writtenCode) := goodIn_app (goodIn_g _ [5, 1195, 0, 0] [3, 0, 1, 2] rfl (by decide +kernel) (by decide +kernel)) ggL_law_X8_writtenCode
set_option maxRecDepth 100000 in
set_option maxHeartbeats 4000000 in
theorem ggL_law_L_writtenWidth : GoodIn wsL_law wsL_writtenWidth := goodIn_ca (goodIn_g _ [2, 15, 210, 0, 102, 652, 8, 0, 0, 0, 0, 211, 0, 0, 0, 0, 259, 0, 0, 0, 0, 0, 0, 0, 0, 0, 0, 27, 0, 0, 0, 0, 0, 0, 0, 0, 0, 0, 0, 0, 0] [5, 7, 14, 15, 13, 1, 8, 9, 10, 11, 12, 0, 2, 3, 4, 6, 16, 17, 18, 19, 20, 21, 22, 23, 24, 25, 26, 27, 28, 29, 30, 31, 32, 33, 34, 35, 36, 37, 38, 39, 40] rfl (by decide +kernel) (by decide +kernel)) (goodIn_sub (fun _ h => List.mem_append_right _ h) (by decide +kernel))
set_option maxRecDepth 100000 in
set_option maxHeartbeats 4000000 in
theorem gL_law_L_writtenWidth : GoodIn wsL_law (va_wsS RL 258 yL_writtenWidth wsL_writtenWidth) := goodIn_app (goodIn_g _ [143, 1065, 0] [2, 0, 1] rfl (by decide +kernel) (by decide +kernel)) ggL_law_L_writtenWidth
set_option maxRecDepth 100000 in
set_option maxHeartbeats 4000000 in
theorem ggL_law_X8_writtenWidth : GoodIn wsL_law wsX8_writtenWidth := goodIn_g _ [5, 124, 34, 0, 0, 0, 0, 4, 0, 0, 0, 18, 0, 0, 370, 0, 0, 0, 632, 0, 0, 0, 10, 266, 0, 0, 0, 0, 0, 0, 0, 0, 0, 0, 0, 0, 0, 0, 0, 0, 0, 0, 0, 0, 0, 0, 0, 0, 0, 0] [4, 6, 10, 11, 12, 13, 14, 19, 20, 21, 22, 7, 8, 9, 15, 16, 17, 18, 1, 2, 3, 5, 0, 23, 24, 25, 26, 27, 28, 29, 30, 31, 32, 33, 34, 35, 36, 37, 38, 39, 40, 41, 42, 43, 44, 45, 46, 47, 48, 49] rfl (by decide +kernel) (by decide +kernel)
set_option maxRecDepth 100000 in
set_option maxHeartbeats 4000000 in
theorem gL_law_X8_writtenWidth : GoodIn wsL_law (wsV RL 260 RX8 yX8_writtenWidth wsX8_writtenWidth) := goodIn_app (goodIn_g _ [5, 1210, 0, 0] [3, 0, 1, 2] rfl (by decide +kernel) (by decide +kernel)) ggL_law_X8_writtenWidth
set_option maxRecDepth 100000 in
set_option maxHeartbeats 4000000 in
theorem ggL_law_X7_bitCount : GoodIn wsL_law wsX7_bitCount := goodIn_g _ [18, 1204, 251, 0, 0, 0, 0, 0, 0, 0, 0, 0, 0, 27, 0, 0, 0, 0, 0, 0, 0, 0, 0, 0, 0, 0, 0] [1, 0, 2, 3, 4, 5, 6, 7, 8, 9, 10, 11, 12, 13, 14, 15, 16, 17, 18, 19, 20, 21, 22, 23, 24, 25, 26] rfl (by decide +kernel) (by decide +kernel)
set_option maxRecDepth 100000 in
set_option maxHeartbeats 4000000 in
theorem gL_law_X7_bitCount : GoodIn wsL_law (wsV RL 261 RX7 yX7_bitCount wsX7_bitCount) := goodIn_app (goodIn_g _ [2, 1217, 0, 0] [3, 0, 1, 2] rfl (by decide +kernel) (by decide +kernel)) ggL_law_X7_bitCount
set_option maxRecDepth 100000 in
set_option maxHeartbeats 4000000 in
theorem ggL_law_X8_bitCount : GoodIn wsL_law wsX8_bitCount := goodIn_g _ [5, 124, 38, 4, 0, 0, 0, 387, 0, 0, 0, 0, 0, 0, 0, 654, 0, 0, 0, 0, 254, 0, 0, 0, 0, 0, 0, 0, 0, 0, 0, 0, 0, 0, 0, 0, 0, 0, 0, 0, 0, 0, 0, 0, 0, 0, 0] [4, 10, 19, 15, 16, 17, 18, 6, 7, 8, 9, 11, 12, 13, 14, 0, 1, 2, 3, 5, 20, 21, 22, 23, 24, 25, 26, 27, 28, 29, 30, 31, 32, 33, 34, 35, 36, 37, 38, 39, 40, 41, 42, 43, 44, 45, 46] rfl (by decide +kernel) (by decide +kernel)
set_option maxRecDepth 100000 in
set_option maxHeartbeats 4000000 in
theorem gL_law_X8_bitCount : GoodIn wsL_law (wsV RL 264 RX8 yX8_bitCount wsX8_bitCount) := goodIn_app (goodIn_g _ [5, 1218, 0, 0] [3, 0, 1, 2] rfl (by decide +kernel) (by decide +kernel)) ggL_law_X8_bitCount
set_option maxRecDepth 100000 in
set_option maxHeartbeats 4000000 in
theorem ggL_law_L_bitAt : GoodIn wsL_law wsL_bitAt := goodIn_ca (goodIn_g _ [2, 14, 0, 31, 0, 60, 116, 0, 423, 331, 8, 0, 0, 0, 0, 234, 0, 0, 0, 0, 0, 0, 0, 0, 0, 0, 0, 229, 0, 0, 0, 0, 0, 0, 0, 0, 0, 0, 27, 0, 0, 0, 0, 0, 0, 0, 0, 0, 0, 0, 0, 0] [5, 16, 7, 24, 19, 18, 25, 26, 22, 1, 8, 9, 10, 11, 12, 0, 2, 3, 4, 6, 13, 14, 15, 17, 20, 21, 23, 27, 28, 29, 30, 31, 32, 33, 34, 35, 36, 37, 38, 39, 40, 41, 42, 43, 44, 45, 46, 47, 48, 49, 50, 51] rfl (by decide +kernel) (by decide +kernel)) (goodIn_sub (fun _ h => List.mem_append_right _ h) (by decide +kernel))
set_option maxRecDepth 100000 in
set_option maxHeartbeats 4000000 in
theorem gL_law_L_bitAt : GoodIn wsL_law (va_wsS RL 265 yL_bitAt wsL_bitAt) := goodIn_app (goodIn_g _ [143, 1088, 0] [2, 0, 1] rfl (by decide +kernel) (by decide +kernel)) ggL_law_L_bitAt
set_option maxRecDepth 100000 in
set_option maxHeartbeats 4000000 in
theorem ggL_law_X8_bitAt : GoodIn wsL_law wsX8_bitAt := goodIn_g _ [5, 124, 34, 0, 0, 0, 0, 4, 0, 0, 0, 18, 0, 0, 366, 0, 0, 0, 0, 0, 0, 0, 4, 0, 0, 0, 647, 0, 0, 0, 17, 0, 0, 0, 0, 232, 0, 0, 0, 0, 0, 0, 0, 0, 0, 0, 0, 0, 0, 0, 0, 0, 0, 0, 0, 0, 0, 0, 0, 0, 0, 0] [4, 10, 18, 19, 20, 21, 22, 31, 32, 33, 34, 15, 16, 17, 6, 7, 8, 9, 11, 12, 13, 14, 27, 28, 29, 30, 1, 2, 3, 5, 0, 23, 24, 25, 26, 35, 36, 37, 38, 39, 40, 41, 42, 43, 44, 45, 46, 47, 48, 49, 50, 51, 52, 53, 54, 55, 56, 57, 58, 59, 60, 61] rfl (by decide +kernel) (by decide +kernel)
set_option maxRecDepth 100000 in
set_option maxHeartbeats 4000000 in
theorem gL_law_X8_bitAt : GoodIn wsL_law (wsV RL 267 RX8 yX8_bitAt wsX8_bitAt) := goodIn_app (goodIn_g _ [5, 1240, 0, 0] [3, 0, 1, 2] rfl (by decide +kernel) (by decide +kernel)) ggL_law_X8_bitAt
set_option maxRecDepth 100000 in
set_option maxHeartbeats 4000000 in
theorem ggL_law_X7_byteCount : GoodIn wsL_law wsX7_byteCount := goodIn_g _ [18, 1238, 217, 0, 0, 0, 0, 0, 0, 0, 0, 0, 0, 27, 0, 0, 0, 0, 0, 0, 0, 0, 0, 0, 0, 0, 0] [1, 0, 2, 3, 4, 5, 6, 7, 8, 9, 10, 11, 12, 13, 14, 15, 16, 17, 18, 19, 20, 21, 22, 23, 24, 25, 26] rfl (by decide +kernel) (by decide +kernel)
set_option maxRecDepth 100000 in
set_option maxHeartbeats 4000000 in
theorem gL_law_X7_byteCount : GoodIn wsL_law (wsV RL 268 RX7 yX7_byteCount wsX7_byteCount) := goodIn_app (goodIn_g _ [2, 1251, 0, 0] [3, 0, 1, 2] rfl (by decide +kernel) (by decide +kernel)) ggL_law_X7_byteCount
set_option maxRecDepth 100000 in
set_option maxHeartbeats 4000000 in
theorem ggL_law_X8_byteCount : GoodIn wsL_law wsX8_byteCount := goodIn_g _ [5, 124, 38, 4, 0, 0, 0, 387, 0, 0, 0, 0, 0, 0, 0, 655, 0, 0, 0, 29, 0, 0, 0, 0, 220, 0, 0, 0, 0, 0, 0, 0, 0, 0, 0, 0, 0, 0, 0, 0, 0, 0, 0, 0, 0, 0, 0, 0, 0, 0, 0] [4, 14, 23, 19, 20, 21, 22, 10, 11, 12, 13, 15, 16, 17, 18, 6, 7, 8, 9, 0, 1, 2, 3, 5, 24, 25, 26, 27, 28, 29, 30, 31, 32, 33, 34, 35, 36, 37, 38, 39, 40, 41, 42, 43, 44, 45, 46, 47, 48, 49, 50] rfl (by decide +kernel) (by decide +kernel)
set_option maxRecDepth 100000 in
set_option maxHeartbeats 4000000 in
theorem gL_law_X8_byteCount : GoodIn wsL_law (wsV RL 271 RX8 yX8_byteCount wsX8_byteCount) := goodIn_app (goodIn_g _ [5, 1252, 0, 0] [3, 0, 1, 2] rfl (by decide +kernel) (by decide +kernel)) ggL_law_X8_byteCount
set_option maxRecDepth 100000 in
set_option maxHeartbeats 4000000 in
theorem ggL_law_L_byteAt : GoodIn wsL_law wsL_byteAt := goodIn_ca (goodIn_g _ [2, 14, 0, 31, 0, 60, 116, 0, 423, 331, 8, 0, 0, 0, 0, 239, 0, 0, 0, 0, 0, 0, 9, 0, 0, 10, 0, 0, 0, 0, 0, 201, 0, 0, 0, 0, 0, 0, 0, 0, 0, 0, 27, 0, 0, 0, 0, 0, 0, 0, 0, 0, 0, 0, 0, 0] [5, 20, 7, 28, 23, 22, 29, 30, 26, 1, 12, 13, 14, 15, 16, 17, 18, 19, 21, 24, 25, 27, 9, 10, 11, 0, 2, 3, 4, 6, 8, 31, 32, 33, 34, 35, 36, 37, 38, 39, 40, 41, 42, 43, 44, 45, 46, 47, 48, 49, 50, 51, 52, 53, 54, 55] rfl (by decide +kernel) (by decide +kernel)) (goodIn_sub (fun _ h => List.mem_append_right _ h) (by decide +kernel))
set_option maxRecDepth 100000 in
set_option maxHeartbeats 4000000 in
theorem gL_law_L_byteAt : GoodIn wsL_law (va_wsS RL 272 yL_byteAt wsL_byteAt) := goodIn_app (goodIn_g _ [143, 1122, 0] [2, 0, 1] rfl (by decide +kernel) (by decide +kernel)) ggL_law_L_byteAt
