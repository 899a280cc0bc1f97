set_option maxRecDepth 20000 in
theorem ggL_append_X7_append : GoodIn wsL_append wsX7_append := goodIn_ca (goodIn_r _ [6, 7, 8, 9, 10, 11, 12, 5, 13, 14, 15, 16, 17, 18, 19, 20, 21, 22, 23, 24, 25, 26, 27, 28] (by decide +kernel) (by decide +kernel)) (goodIn_sub (fun _ h => List.mem_cons_of_mem _ (List.mem_append_right _ h)) (by decide +kernel))
set_option maxRecDepth 20000 in
theorem gL_append_X7_append : GoodIn wsL_append (wsV RL 7 RX7 yX7_append wsX7_append) := goodIn_app (goodIn_of _ (by decide +kernel)) ggL_append_X7_append
theorem dL_append_0 : decode cL_append 0 = .ok (.aload 6, 2) := by decide +kernel
theorem dL_append_2 : decode cL_append 2 = .ok (.iconst 0, 1) := by decide +kernel
theorem dL_append_3 : decode cL_append 3 = .ok (.aload_n 0, 1) := by decide +kernel
theorem dL_append_4 : decode cL_append 4 = .ok (.iload_n 1, 1) := by decide +kernel
theorem dL_append_5 : decode cL_append 5 = .ok (.iload_n 2, 1) := by decide +kernel
theorem dL_append_6 : decode cL_append 6 = .ok (.iload_n 3, 1) := by decide +kernel
theorem dL_append_7 : decode cL_append 7 = .ok (.iload 4, 2) := by decide +kernel
theorem dL_append_9 : decode cL_append 9 = .ok (.iload 5, 2) := by decide +kernel
theorem dL_append_11 : decode cL_append 11 = .ok (.invokevirtual 7, 3) := by decide +kernel
theorem dL_append_14 : decode cL_append 14 = .ok (.i2l, 1) := by decide +kernel
theorem dL_append_15 : decode cL_append 15 = .ok (.lastore, 1) := by decide +kernel
theorem dL_append_16 : decode cL_append 16 = .ok (.goto 7, 3) := by decide +kernel
theorem dL_append_19 : decode cL_append 19 = .ok (.astore 7, 2) := by decide +kernel
theorem dL_append_21 : decode cL_append 21 = .ok (.iconst 1, 1) := by decide +kernel
theorem dL_append_22 : decode cL_append 22 = .ok (.ireturn, 1) := by decide +kernel
theorem dL_append_23 : decode cL_append 23 = .ok (.iconst 0, 1) := by decide +kernel
theorem dL_append_24 : decode cL_append 24 = .ok (.ireturn, 1) := by decide +kernel
set_option maxRecDepth 20000 in
theorem ggL_truncate_X7_truncate : GoodIn wsL_truncate wsX7_truncate := goodIn_ca (goodIn_r _ [6, 7, 8, 9, 10, 11, 12, 13, 14, 15, 16, 17, 18, 19, 20] (by decide +kernel) (by decide +kernel)) (goodIn_sub (fun _ h => List.mem_cons_of_mem _ (List.mem_append_right _ h)) (by decide +kernel))
set_option maxRecDepth 20000 in
theorem gL_truncate_X7_truncate : GoodIn wsL_truncate (wsV RL 15 RX7 yX7_truncate wsX7_truncate) := goodIn_app (goodIn_of _ (by decide +kernel)) ggL_truncate_X7_truncate
theorem dL_truncate_0 : decode cL_truncate 0 = .ok (.aload_n 2, 1) := by decide +kernel
theorem dL_truncate_1 : decode cL_truncate 1 = .ok (.iconst 0, 1) := by decide +kernel
theorem dL_truncate_2 : decode cL_truncate 2 = .ok (.aload_n 0, 1) := by decide +kernel
theorem dL_truncate_3 : decode cL_truncate 3 = .ok (.iload_n 1, 1) := by decide +kernel
theorem dL_truncate_4 : decode cL_truncate 4 = .ok (.invokevirtual 15, 3) := by decide +kernel
theorem dL_truncate_7 : decode cL_truncate 7 = .ok (.i2l, 1) := by decide +kernel
theorem dL_truncate_8 : decode cL_truncate 8 = .ok (.lastore, 1) := by decide +kernel
theorem dL_truncate_9 : decode cL_truncate 9 = .ok (.goto 6, 3) := by decide +kernel
theorem dL_truncate_12 : decode cL_truncate 12 = .ok (.astore_n 3, 1) := by decide +kernel
theorem dL_truncate_13 : decode cL_truncate 13 = .ok (.iconst 1, 1) := by decide +kernel
theorem dL_truncate_14 : decode cL_truncate 14 = .ok (.ireturn, 1) := by decide +kernel
theorem dL_truncate_15 : decode cL_truncate 15 = .ok (.iconst 0, 1) := by decide +kernel
theorem dL_truncate_16 : decode cL_truncate 16 = .ok (.ireturn, 1) := by decide +kernel
set_option maxRecDepth 20000 in
theorem ggL_load_X7_load : GoodIn wsL_load wsX7_load := goodIn_ca (goodIn_r _ [6, 7, 8, 9, 10, 11, 12, 13, 14, 15, 16, 17, 18, 19, 20, 21, 22, 23, 24, 25, 26, 27, 28, 29, 30, 31, 32, 33, 34, 35, 36, 37, 38, 39, 40, 41, 42, 43, 5, 44, 45, 46, 47, 48, 49, 50, 51, 52, 53, 54, 55, 56, 57, 58, 59, 60, 61, 62, 63, 64, 65, 66, 67, 68, 69, 70, 71, 72, 73, 74, 75, 76, 77, 78, 79, 80, 81, 82, 83, 84, 85, 86, 87, 88, 89, 90, 91, 92, 93, 94, 95, 96, 97, 98, 99, 100, 101, 102, 103, 104, 105, 106, 107, 108, 109, 110, 111, 112, 113, 114, 115, 116, 117, 118, 119, 120, 121, 122, 123, 124, 125, 126, 127, 128, 129, 130, 131, 132, 133, 134, 135, 136, 137, 138, 139, 140, 141, 142, 143, 144, 145, 146, 147, 148, 149, 150, 151, 152, 153, 154, 155, 156, 157, 158, 159, 160, 161, 162, 163, 164, 165, 166, 167, 168, 169, 170, 171, 172, 173, 174, 175, 176, 177, 178, 179, 180, 181, 182, 183, 184, 185, 186, 187, 188, 189, 190, 191, 192, 193, 194, 195, 196, 197, 198, 199, 200, 201, 202, 203, 204, 205, 206, 207, 208, 209, 210, 211, 212, 213, 214, 215, 216, 217, 218, 219, 220, 221, 222, 223, 224, 225, 226, 227, 228, 229, 230, 231, 232, 233, 234, 235, 236, 237, 238, 239, 240, 241, 242, 243, 244, 245, 246, 247, 248, 249, 250, 251, 252, 253, 254, 255, 256, 257, 258, 259, 260, 261, 262, 263, 264, 265, 266, 267, 268, 269, 270, 271, 272, 273, 274, 275, 276, 277, 278, 279, 280, 281, 282, 283, 284, 285, 286, 287, 288, 289, 290, 291, 292, 293, 294, 295, 296, 297, 298, 299, 300, 301, 302, 303, 304, 305, 306, 307, 308, 309, 310, 311, 312, 313, 314, 315, 316, 317] (by decide +kernel) (by decide +kernel)) (goodIn_sub (fun _ h => List.mem_cons_of_mem _ (List.mem_append_right _ h)) (by decide +kernel))
set_option maxRecDepth 20000 in
theorem gL_load_X7_load : GoodIn wsL_load (wsV RL 21 RX7 yX7_load wsX7_load) := goodIn_app (goodIn_of _ (by decide +kernel)) ggL_load_X7_load
theorem dL_load_0 : decode cL_load 0 = .ok (.aload_n 1, 1) := by decide +kernel
theorem dL_load_1 : decode cL_load 1 = .ok (.iconst 0, 1) := by decide +kernel
theorem dL_load_2 : decode cL_load 2 = .ok (.aload_n 0, 1) := by decide +kernel
theorem dL_load_3 : decode cL_load 3 = .ok (.invokevirtual 21, 3) := by decide +kernel
theorem dL_load_6 : decode cL_load 6 = .ok (.i2l, 1) := by decide +kernel
theorem dL_load_7 : decode cL_load 7 = .ok (.lastore, 1) := by decide +kernel
theorem dL_load_8 : decode cL_load 8 = .ok (.goto 6, 3) := by decide +kernel
theorem dL_load_11 : decode cL_load 11 = .ok (.astore_n 2, 1) := by decide +kernel
theorem dL_load_12 : decode cL_load 12 = .ok (.iconst 1, 1) := by decide +kernel
theorem dL_load_13 : decode cL_load 13 = .ok (.ireturn, 1) := by decide +kernel
theorem dL_load_14 : decode cL_load 14 = .ok (.iconst 0, 1) := by decide +kernel
theorem dL_load_15 : decode cL_load 15 = .ok (.ireturn, 1) := by decide +kernel
set_option maxRecDepth 20000 in
theorem ggL_decode_X7_decode : GoodIn wsL_decode wsX7_decode := goodIn_ca (goodIn_r _ [6, 7, 8, 9, 10, 11, 12, 13, 14, 15, 16, 17, 18, 19, 20, 21, 22, 23, 24, 25, 26, 27, 28, 29, 30, 31, 32, 33, 34, 35, 36, 37, 38, 39, 40, 41, 42, 43, 44, 45, 46, 47, 48, 49, 50, 51, 52, 53, 54, 55, 56, 57, 58, 59, 60, 61, 62, 63, 5, 64, 65, 66, 67, 68, 69, 70, 71, 72, 73, 74, 75, 76, 77, 78, 79, 80, 81, 82, 83, 84, 85, 86, 87, 88, 89, 90, 91, 92, 93, 94, 95, 96, 97, 98, 99, 100, 101, 102, 103, 104, 105, 106, 107, 108, 109, 110, 111, 112, 113, 114, 115, 116, 117, 118, 119, 120, 121, 122, 123, 124, 125, 126, 127, 128, 129, 130, 131, 132, 133, 134, 135, 136, 137, 138, 139, 140, 141, 142, 143, 144, 145, 146, 147, 148, 149, 150, 151, 152, 153, 154, 155, 156, 157, 158, 159, 160, 161, 162, 163, 164, 165, 166, 167, 168, 169, 170, 171, 172, 173, 174, 175, 176, 177, 178, 179, 180, 181, 182, 183, 184, 185, 186, 187, 188] (by decide +kernel) (by decide +kernel)) (goodIn_sub (fun _ h => List.mem_cons_of_mem _ (List.mem_append_right _ h)) (by decide +kernel))
set_option maxRecDepth 20000 in
theorem gL_decode_X7_decode : GoodIn wsL_decode (wsV RL 25 RX7 yX7_decode wsX7_decode) := goodIn_app (goodIn_of _ (by decide +kernel)) ggL_decode_X7_decode
theorem dL_decode_0 : decode cL_decode 0 = .ok (.aload_n 1, 1) := by decide +kernel
theorem dL_decode_1 : decode cL_decode 1 = .ok (.iconst 0, 1) := by decide +kernel
theorem dL_decode_2 : decode cL_decode 2 = .ok (.aload_n 0, 1) := by decide +kernel
theorem dL_decode_3 : decode cL_decode 3 = .ok (.invokevirtual 25, 3) := by decide +kernel
theorem dL_decode_6 : decode cL_decode 6 = .ok (.i2l, 1) := by decide +kernel
theorem dL_decode_7 : decode cL_decode 7 = .ok (.lastore, 1) := by decide +kernel
theorem dL_decode_8 : decode cL_decode 8 = .ok (.goto 6, 3) := by decide +kernel
theorem dL_decode_11 : decode cL_decode 11 = .ok (.astore_n 2, 1) := by decide +kernel
theorem dL_decode_12 : decode cL_decode 12 = .ok (.iconst 1, 1) := by decide +kernel
theorem dL_decode_13 : decode cL_decode 13 = .ok (.ireturn, 1) := by decide +kernel
theorem dL_decode_14 : decode cL_decode 14 = .ok (.iconst 0, 1) := by decide +kernel
theorem dL_decode_15 : decode cL_decode 15 = .ok (.ireturn, 1) := by decide +kernel
set_option maxRecDepth 20000 in
theorem ggL_encode_X7_encode : GoodIn wsL_encode wsX7_encode := goodIn_ca (goodIn_ca (goodIn_r _ [7, 8, 9, 10, 11, 12, 13, 14, 6, 15, 16, 17, 18, 19, 20, 21, 22, 23, 24, 25, 26, 27, 28, 29, 30, 31, 32, 33, 34, 35, 36, 37, 38, 39, 40, 41, 42, 43, 44, 45, 46, 47, 48, 49, 50, 51, 52, 53, 54, 55, 56, 57, 58, 59, 60, 61, 62, 63, 64, 65, 66, 67, 68, 69, 70, 71, 72, 73, 74, 75, 76, 77, 78, 79, 80, 81, 82, 83, 84, 85, 86, 87, 88, 89, 90, 91, 92, 93, 94, 95, 96, 97, 98, 99, 100, 101, 102, 103, 104, 105, 106, 107, 108, 109, 110, 111, 112, 113, 114, 115, 116, 117, 118, 119, 120, 121, 122, 123, 124, 125, 126, 127, 128, 129, 130, 131, 132, 133, 134, 135, 136, 137, 138, 139, 140, 141, 142, 143, 144, 145, 146, 147, 148, 149, 150, 151, 152, 153, 154, 155, 156, 157, 158, 159, 160, 161, 162, 163, 164, 165, 166, 167, 168, 169, 170, 171, 172, 173, 174, 175, 176, 177, 178, 179, 180, 181, 182, 183, 184, 185, 186, 187, 188, 189, 190, 191, 192, 193, 194, 195, 196] (by decide +kernel) (by decide +kernel)) (goodIn_sub (fun _ h => List.mem_cons_of_mem _ (List.mem_append_left _ (List.mem_append_right _ h))) (by decide +kernel))) (goodIn_sub (fun _ h => List.mem_cons_of_mem _ (List.mem_append_right _ h)) (by decide +kernel))
set_option maxRecDepth 20000 in
theorem gL_encode_X7_encode : GoodIn wsL_encode (wsV RL 28 RX7 yX7_encode wsX7_encode) := goodIn_app (goodIn_of _ (by decide +kernel)) ggL_encode_X7_encode
theorem dL_encode_0 : decode cL_encode 0 = .ok (.aload_n 2, 1) := by decide +kernel
theorem dL_encode_1 : decode cL_encode 1 = .ok (.iconst 0, 1) := by decide +kernel
theorem dL_encode_2 : decode cL_encode 2 = .ok (.aload_n 0, 1) := by decide +kernel
theorem dL_encode_3 : decode cL_encode 3 = .ok (.iload_n 1, 1) := by decide +kernel
theorem dL_encode_4 : decode cL_encode 4 = .ok (.invokevirtual 28, 3) := by decide +kernel
theorem dL_encode_7 : decode cL_encode 7 = .ok (.i2l, 1) := by decide +kernel
theorem dL_encode_8 : decode cL_encode 8 = .ok (.lastore, 1) := by decide +kernel
theorem dL_encode_9 : decode cL_encode 9 = .ok (.goto 9, 3) := by decide +kernel
theorem dL_encode_12 : decode cL_encode 12 = .ok (.astore_n 3, 1) := by decide +kernel
theorem dL_encode_13 : decode cL_encode 13 = .ok (.iconst 1, 1) := by decide +kernel
theorem dL_encode_14 : decode cL_encode 14 = .ok (.ireturn, 1) := by decide +kernel
theorem dL_encode_15 : decode cL_encode 15 = .ok (.astore_n 3, 1) := by decide +kernel
theorem dL_encode_16 : decode cL_encode 16 = .ok (.iconst 2, 1) := by decide +kernel
theorem dL_encode_17 : decode cL_encode 17 = .ok (.ireturn, 1) := by decide +kernel
theorem dL_encode_18 : decode cL_encode 18 = .ok (.iconst 0, 1) := by decide +kernel
theorem dL_encode_19 : decode cL_encode 19 = .ok (.ireturn, 1) := by decide +kernel
set_option maxRecDepth 20000 in
theorem ggL_encodeTape_X7_encodeTape : GoodIn wsL_encodeTape wsX7_encodeTape := goodIn_ca (goodIn_ca (goodIn_r _ [7, 8, 9, 10, 11, 12, 13, 14, 15, 16, 17, 6, 18, 19, 20, 21, 22, 23, 24, 25, 26, 27, 28, 29, 30, 31, 32, 33, 34, 35, 36, 37, 38, 39, 40, 41, 42, 43, 44, 45, 46, 47, 48, 49, 50, 51, 52, 53, 54, 55, 56, 57, 58, 59, 60, 61, 62, 63, 64, 65, 66, 67, 68, 69, 70, 71, 72, 73, 74, 75, 76, 77, 78, 79, 80, 81, 82, 83, 84, 85, 86, 87, 88, 89, 90, 91, 92, 93, 94, 95, 96, 97, 98, 99, 100, 101, 102, 103, 104, 105, 106, 107, 108, 109, 110, 111, 112, 113, 114, 115, 116, 117, 118, 119, 120, 121, 122, 123, 124, 125, 126, 127, 128, 129, 130, 131, 132, 133, 134, 135, 136, 137, 138, 139, 140, 141, 142, 143, 144, 145, 146, 147, 148, 149, 150, 151, 152, 153, 154, 155, 156, 157, 158, 159, 160, 161, 162, 163, 164, 165, 166, 167, 168, 169, 170, 171, 172, 173, 174, 175, 176, 177, 178, 179, 180, 181, 182, 183, 184, 185, 186, 187, 188, 189, 190, 191, 192, 193, 194, 195] (by decide +kernel) (by decide +kernel)) (goodIn_sub (fun _ h => List.mem_cons_of_mem _ (List.mem_append_left _ (List.mem_append_right _ h))) (by decide +kernel))) (goodIn_sub (fun _ h => List.mem_cons_of_mem _ (List.mem_append_right _ h)) (by decide +kernel))
set_option maxRecDepth 20000 in
theorem gL_encodeTape_X7_encodeTape : GoodIn wsL_encodeTape (wsV RL 31 RX7 yX7_encodeTape wsX7_encodeTape) := goodIn_app (goodIn_of _ (by decide +kernel)) ggL_encodeTape_X7_encodeTape
theorem dL_encodeTape_0 : decode cL_encodeTape 0 = .ok (.aload_n 1, 1) := by decide +kernel
theorem dL_encodeTape_1 : decode cL_encodeTape 1 = .ok (.iconst 0, 1) := by decide +kernel
theorem dL_encodeTape_2 : decode cL_encodeTape 2 = .ok (.aload_n 0, 1) := by decide +kernel
theorem dL_encodeTape_3 : decode cL_encodeTape 3 = .ok (.invokevirtual 31, 3) := by decide +kernel
theorem dL_encodeTape_6 : decode cL_encodeTape 6 = .ok (.i2l, 1) := by decide +kernel
theorem dL_encodeTape_7 : decode cL_encodeTape 7 = .ok (.lastore, 1) := by decide +kernel
theorem dL_encodeTape_8 : decode cL_encodeTape 8 = .ok (.goto 9, 3) := by decide +kernel
theorem dL_encodeTape_11 : decode cL_encodeTape 11 = .ok (.astore_n 2, 1) := by decide +kernel
theorem dL_encodeTape_12 : decode cL_encodeTape 12 = .ok (.iconst 1, 1) := by decide +kernel
theorem dL_encodeTape_13 : decode cL_encodeTape 13 = .ok (.ireturn, 1) := by decide +kernel
theorem dL_encodeTape_14 : decode cL_encodeTape 14 = .ok (.astore_n 2, 1) := by decide +kernel
theorem dL_encodeTape_15 : decode cL_encodeTape 15 = .ok (.iconst 2, 1) := by decide +kernel
theorem dL_encodeTape_16 : decode cL_encodeTape 16 = .ok (.ireturn, 1) := by decide +kernel
theorem dL_encodeTape_17 : decode cL_encodeTape 17 = .ok (.iconst 0, 1) := by decide +kernel
theorem dL_encodeTape_18 : decode cL_encodeTape 18 = .ok (.ireturn, 1) := by decide +kernel
set_option maxRecDepth 20000 in
theorem ggL_setPolicy_X7_setPolicy : GoodIn wsL_setPolicy wsX7_setPolicy := goodIn_ca (goodIn_r _ [6, 7, 8, 9, 10, 11, 12, 13, 14, 15, 16, 17, 18, 19, 20, 21, 22, 23, 24, 25, 26, 27, 28, 29, 30, 31, 32, 33, 34, 35, 36, 37, 38, 39, 40, 41, 42, 43, 44, 45, 46, 47, 48, 49, 50, 51, 52, 53, 54, 55, 56, 57, 58, 59, 60, 61, 62, 63, 5, 64, 65, 66, 67, 68, 69, 70, 71, 72, 73, 74, 75, 76, 77, 78, 79, 80, 81, 82, 83, 84, 85, 86, 87, 88, 89, 90, 91, 92, 93, 94, 95, 96, 97, 98, 99, 100, 101, 102, 103, 104, 105, 106] (by decide +kernel) (by decide +kernel)) (goodIn_sub (fun _ h => List.mem_cons_of_mem _ (List.mem_append_right _ h)) (by decide +kernel))
set_option maxRecDepth 20000 in
theorem gL_setPolicy_X7_setPolicy : GoodIn wsL_setPolicy (wsV RL 34 RX7 yX7_setPolicy wsX7_setPolicy) := goodIn_app (goodIn_of _ (by decide +kernel)) ggL_setPolicy_X7_setPolicy
theorem dL_setPolicy_0 : decode cL_setPolicy 0 = .ok (.aload_n 2, 1) := by decide +kernel
theorem dL_setPolicy_1 : decode cL_setPolicy 1 = .ok (.iconst 0, 1) := by decide +kernel
theorem dL_setPolicy_2 : decode cL_setPolicy 2 = .ok (.aload_n 0, 1) := by decide +kernel
theorem dL_setPolicy_3 : decode cL_setPolicy 3 = .ok (.iload_n 1, 1) := by decide +kernel
theorem dL_setPolicy_4 : decode cL_setPolicy 4 = .ok (.invokevirtual 34, 3) := by decide +kernel
theorem dL_setPolicy_7 : decode cL_setPolicy 7 = .ok (.i2l, 1) := by decide +kernel
theorem dL_setPolicy_8 : decode cL_setPolicy 8 = .ok (.lastore, 1) := by decide +kernel
theorem dL_setPolicy_9 : decode cL_setPolicy 9 = .ok (.goto 6, 3) := by decide +kernel
theorem dL_setPolicy_12 : decode cL_setPolicy 12 = .ok (.astore_n 3, 1) := by decide +kernel
theorem dL_setPolicy_13 : decode cL_setPolicy 13 = .ok (.iconst 1, 1) := by decide +kernel
theorem dL_setPolicy_14 : decode cL_setPolicy 14 = .ok (.ireturn, 1) := by decide +kernel
theorem dL_setPolicy_15 : decode cL_setPolicy 15 = .ok (.iconst 0, 1) := by decide +kernel
theorem dL_setPolicy_16 : decode cL_setPolicy 16 = .ok (.ireturn, 1) := by decide +kernel
set_option maxRecDepth 20000 in
theorem ggL_setLimit_X7_setLimit : GoodIn wsL_setLimit wsX7_setLimit := goodIn_ca (goodIn_r _ [6, 7, 8, 9, 10, 11, 12, 13, 14, 15, 16, 17, 18, 19, 20, 21, 22, 23, 24, 25, 26, 27, 28, 29, 30, 31, 32, 33, 34, 35, 36, 37, 38, 39, 40, 41, 42, 43, 44, 45, 46, 47, 48, 49, 50, 51, 52, 53, 54, 55, 56, 57, 58, 59, 60, 61, 62, 63, 5, 64, 65, 66, 67, 68, 69, 70, 71, 72, 73, 74, 75, 76, 77, 78, 79, 80, 81, 82, 83, 84, 85, 86, 87, 88, 89, 90, 91, 92, 93, 94, 95, 96, 97, 98, 99, 100, 101, 102, 103, 104, 105, 106] (by decide +kernel) (by decide +kernel)) (goodIn_sub (fun _ h => List.mem_cons_of_mem _ (List.mem_append_right _ h)) (by decide +kernel))
set_option maxRecDepth 20000 in
theorem gL_setLimit_X7_setLimit : GoodIn wsL_setLimit (wsV RL 37 RX7 yX7_setLimit wsX7_setLimit) := goodIn_app (goodIn_of _ (by decide +kernel)) ggL_setLimit_X7_setLimit
theorem dL_setLimit_0 : decode cL_setLimit 0 = .ok (.aload_n 2, 1) := by decide +kernel
theorem dL_setLimit_1 : decode cL_setLimit 1 = .ok (.iconst 0, 1) := by decide +kernel
theorem dL_setLimit_2 : decode cL_setLimit 2 = .ok (.aload_n 0, 1) := by decide +kernel
theorem dL_setLimit_3 : decode cL_setLimit 3 = .ok (.iload_n 1, 1) := by decide +kernel
theorem dL_setLimit_4 : decode cL_setLimit 4 = .ok (.invokevirtual 37, 3) := by decide +kernel
theorem dL_setLimit_7 : decode cL_setLimit 7 = .ok (.i2l, 1) := by decide +kernel
theorem dL_setLimit_8 : decode cL_setLimit 8 = .ok (.lastore, 1) := by decide +kernel
theorem dL_setLimit_9 : decode cL_setLimit 9 = .ok (.goto 6, 3) := by decide +kernel
theorem dL_setLimit_12 : decode cL_setLimit 12 = .ok (.astore_n 3, 1) := by decide +kernel
theorem dL_setLimit_13 : decode cL_setLimit 13 = .ok (.iconst 1, 1) := by decide +kernel
theorem dL_setLimit_14 : decode cL_setLimit 14 = .ok (.ireturn, 1) := by decide +kernel
theorem dL_setLimit_15 : decode cL_setLimit 15 = .ok (.iconst 0, 1) := by decide +kernel
theorem dL_setLimit_16 : decode cL_setLimit 16 = .ok (.ireturn, 1) := by decide +kernel
set_option maxRecDepth 20000 in
theorem ggL_save_X7_save : GoodIn wsL_save wsX7_save := goodIn_ca (goodIn_r _ [6, 7, 8, 9, 10, 5, 11, 12, 13, 14, 15, 16, 17, 18, 19, 20, 21, 22, 23, 24, 25, 26, 27, 28, 29, 30, 31, 32, 33, 34, 35, 36, 37, 38, 39, 40, 41, 42, 43, 44, 45, 46, 47, 48, 49, 50, 51, 52, 53, 54, 55, 56, 57, 58, 59, 60, 61, 62, 63, 64, 65, 66, 67, 68, 69, 70, 71, 72, 73, 74, 75, 76, 77, 78, 79, 80, 81, 82, 83, 84, 85, 86, 87, 88, 89, 90, 91, 92, 93, 94, 95, 96, 97, 98, 99, 100, 101, 102, 103, 104, 105, 106, 107] (by decide +kernel) (by decide +kernel)) (goodIn_sub (fun _ h => List.mem_cons_of_mem _ (List.mem_append_right _ h)) (by decide +kernel))
set_option maxRecDepth 20000 in
theorem gL_save_X7_save : GoodIn wsL_save (wsV RL 40 RX7 yX7_save wsX7_save) := goodIn_app (goodIn_of _ (by decide +kernel)) ggL_save_X7_save
theorem dL_save_0 : decode cL_save 0 = .ok (.aload_n 0, 1) := by decide +kernel
theorem dL_save_1 : decode cL_save 1 = .ok (.iload_n 1, 1) := by decide +kernel
theorem dL_save_2 : decode cL_save 2 = .ok (.invokevirtual 40, 3) := by decide +kernel
theorem dL_save_5 : decode cL_save 5 = .ok (.goto 6, 3) := by decide +kernel
theorem dL_save_8 : decode cL_save 8 = .ok (.astore_n 2, 1) := by decide +kernel
theorem dL_save_9 : decode cL_save 9 = .ok (.iconst 1, 1) := by decide +kernel
theorem dL_save_10 : decode cL_save 10 = .ok (.ireturn, 1) := by decide +kernel
theorem dL_save_11 : decode cL_save 11 = .ok (.iconst 0, 1) := by decide +kernel
theorem dL_save_12 : decode cL_save 12 = .ok (.ireturn, 1) := by decide +kernel
set_option maxRecDepth 20000 in
theorem ggL_restore_X7_restore : GoodIn wsL_restore wsX7_restore := goodIn_ca (goodIn_ca (goodIn_r _ [7, 8, 9, 10, 11, 12, 13, 6, 14, 15, 16, 17, 18, 19, 20, 21, 22, 23, 24, 25, 26, 27, 28, 29, 30, 31, 32, 33, 34, 35, 36, 37, 38, 39, 40, 41, 42, 43, 44, 45, 46, 47, 48, 49, 50, 51, 52, 53, 54, 55, 56, 57, 58, 59, 60, 61, 62, 63, 64, 65, 66, 67, 68, 69, 70, 71, 72, 73, 74, 75, 76, 77, 78, 79, 80, 81, 82, 83, 84, 85, 86, 87, 88, 89, 90, 91, 92, 93, 94, 95, 96, 97, 98, 99, 100, 101, 102, 103, 104, 105, 106, 107, 108, 109, 110, 111, 112, 113, 114, 115, 116, 117, 118, 119, 120, 121, 122, 123, 124, 125] (by decide +kernel) (by decide +kernel)) (goodIn_sub (fun _ h => List.mem_cons_of_mem _ (List.mem_append_left _ (List.mem_append_right _ h))) (by decide +kernel))) (goodIn_sub (fun _ h => List.mem_cons_of_mem _ (List.mem_append_right _ h)) (by decide +kernel))
set_option maxRecDepth 20000 in
theorem gL_restore_X7_restore : GoodIn wsL_restore (wsV RL 44 RX7 yX7_restore wsX7_restore) := goodIn_app (goodIn_of _ (by decide +kernel)) ggL_restore_X7_restore
theorem dL_restore_0 : decode cL_restore 0 = .ok (.aload_n 2, 1) := by decide +kernel
theorem dL_restore_1 : decode cL_restore 1 = .ok (.iconst 0, 1) := by decide +kernel
theorem dL_restore_2 : decode cL_restore 2 = .ok (.aload_n 0, 1) := by decide +kernel
theorem dL_restore_3 : decode cL_restore 3 = .ok (.iload_n 1, 1) := by decide +kernel
theorem dL_restore_4 : decode cL_restore 4 = .ok (.invokevirtual 44, 3) := by decide +kernel
theorem dL_restore_7 : decode cL_restore 7 = .ok (.i2l, 1) := by decide +kernel
theorem dL_restore_8 : decode cL_restore 8 = .ok (.lastore, 1) := by decide +kernel
theorem dL_restore_9 : decode cL_restore 9 = .ok (.goto 9, 3) := by decide +kernel
theorem dL_restore_12 : decode cL_restore 12 = .ok (.astore_n 3, 1) := by decide +kernel
theorem dL_restore_13 : decode cL_restore 13 = .ok (.iconst 1, 1) := by decide +kernel
theorem dL_restore_14 : decode cL_restore 14 = .ok (.ireturn, 1) := by decide +kernel
theorem dL_restore_15 : decode cL_restore 15 = .ok (.astore_n 3, 1) := by decide +kernel
theorem dL_restore_16 : decode cL_restore 16 = .ok (.iconst 2, 1) := by decide +kernel
theorem dL_restore_17 : decode cL_restore 17 = .ok (.ireturn, 1) := by decide +kernel
theorem dL_restore_18 : decode cL_restore 18 = .ok (.iconst 0, 1) := by decide +kernel
theorem dL_restore_19 : decode cL_restore 19 = .ok (.ireturn, 1) := by decide +kernel
set_option maxRecDepth 20000 in
theorem ggL_undo_X7_undo : GoodIn wsL_undo wsX7_undo := goodIn_ca (goodIn_r _ [6, 7, 8, 9, 10, 11, 12, 13, 14, 15, 16, 17, 18, 19, 20, 21, 22, 23, 24, 25, 26, 27, 28, 29, 30, 31, 32, 33, 34, 35, 36, 37, 38, 39, 40, 41, 42, 43, 44, 45, 46, 47, 48, 49, 50, 51, 52, 53, 54, 55, 56, 57, 58, 59, 5, 60, 61, 62, 63, 64, 65, 66, 67, 68, 69, 70, 71, 72, 73, 74, 75, 76, 77, 78, 79, 80, 81, 82, 83, 84, 85, 86, 87, 88, 89, 90, 91, 92, 93, 94, 95, 96, 97, 98, 99, 100, 101, 102, 103, 104, 105] (by decide +kernel) (by decide +kernel)) (goodIn_sub (fun _ h => List.mem_cons_of_mem _ (List.mem_append_right _ h)) (by decide +kernel))
set_option maxRecDepth 20000 in
theorem gL_undo_X7_undo : GoodIn wsL_undo (wsV RL 49 RX7 yX7_undo wsX7_undo) := goodIn_app (goodIn_of _ (by decide +kernel)) ggL_undo_X7_undo
theorem dL_undo_0 : decode cL_undo 0 = .ok (.aload_n 1, 1) := by decide +kernel
theorem dL_undo_1 : decode cL_undo 1 = .ok (.iconst 0, 1) := by decide +kernel
theorem dL_undo_2 : decode cL_undo 2 = .ok (.aload_n 0, 1) := by decide +kernel
theorem dL_undo_3 : decode cL_undo 3 = .ok (.invokevirtual 49, 3) := by decide +kernel
theorem dL_undo_6 : decode cL_undo 6 = .ok (.i2l, 1) := by decide +kernel
theorem dL_undo_7 : decode cL_undo 7 = .ok (.lastore, 1) := by decide +kernel
theorem dL_undo_8 : decode cL_undo 8 = .ok (.goto 6, 3) := by decide +kernel
theorem dL_undo_11 : decode cL_undo 11 = .ok (.astore_n 2, 1) := by decide +kernel
theorem dL_undo_12 : decode cL_undo 12 = .ok (.iconst 1, 1) := by decide +kernel
theorem dL_undo_13 : decode cL_undo 13 = .ok (.ireturn, 1) := by decide +kernel
theorem dL_undo_14 : decode cL_undo 14 = .ok (.iconst 0, 1) := by decide +kernel
theorem dL_undo_15 : decode cL_undo 15 = .ok (.ireturn, 1) := by decide +kernel
set_option maxRecDepth 20000 in
theorem ggL_phraseLength_X7_phraseLength : GoodIn wsL_phraseLength wsX7_phraseLength := goodIn_ca (goodIn_r _ [6, 7, 8, 9, 10, 5, 11, 12, 13, 14, 15, 16, 17, 18, 19, 20, 21, 22, 23, 24, 25, 26, 27, 28, 29, 30, 31, 32, 33, 34, 35, 36, 37, 38, 39, 40, 41, 42, 43, 44, 45, 46, 47, 48, 49, 50, 51, 52, 53, 54, 55, 56, 57] (by decide +kernel) (by decide +kernel)) (goodIn_sub (fun _ h => List.mem_cons_of_mem _ (List.mem_append_right _ h)) (by decide +kernel))
set_option maxRecDepth 20000 in
theorem gL_phraseLength_X7_phraseLength : GoodIn wsL_phraseLength (wsV RL 52 RX7 yX7_phraseLength wsX7_phraseLength) := goodIn_app (goodIn_of _ (by decide +kernel)) ggL_phraseLength_X7_phraseLength
theorem dL_phraseLength_0 : decode cL_phraseLength 0 = .ok (.aload_n 2, 1) := by decide +kernel
theorem dL_phraseLength_1 : decode cL_phraseLength 1 = .ok (.iconst 0, 1) := by decide +kernel
theorem dL_phraseLength_2 : decode cL_phraseLength 2 = .ok (.aload_n 0, 1) := by decide +kernel
theorem dL_phraseLength_3 : decode cL_phraseLength 3 = .ok (.iload_n 1, 1) := by decide +kernel
theorem dL_phraseLength_4 : decode cL_phraseLength 4 = .ok (.invokevirtual 52, 3) := by decide +kernel
theorem dL_phraseLength_7 : decode cL_phraseLength 7 = .ok (.i2l, 1) := by decide +kernel
theorem dL_phraseLength_8 : decode cL_phraseLength 8 = .ok (.lastore, 1) := by decide +kernel
theorem dL_phraseLength_9 : decode cL_phraseLength 9 = .ok (.goto 6, 3) := by decide +kernel
theorem dL_phraseLength_12 : decode cL_phraseLength 12 = .ok (.astore_n 3, 1) := by decide +kernel
theorem dL_phraseLength_13 : decode cL_phraseLength 13 = .ok (.iconst 1, 1) := by decide +kernel
theorem dL_phraseLength_14 : decode cL_phraseLength 14 = .ok (.ireturn, 1) := by decide +kernel
theorem dL_phraseLength_15 : decode cL_phraseLength 15 = .ok (.iconst 0, 1) := by decide +kernel
theorem dL_phraseLength_16 : decode cL_phraseLength 16 = .ok (.ireturn, 1) := by decide +kernel
set_option maxRecDepth 20000 in
theorem ggL_phraseSymbol_X7_phraseSymbol : GoodIn wsL_phraseSymbol wsX7_phraseSymbol := goodIn_ca (goodIn_r _ [6, 7, 8, 9, 10, 5, 11, 12, 13, 14, 15, 16, 17, 18, 19, 20, 21, 22, 23, 24, 25, 26, 27, 28, 29, 30, 31, 32, 33, 34, 35, 36, 37, 38, 39, 40, 41, 42, 43, 44, 45, 46, 47, 48, 49, 50, 51, 52, 53, 54, 55, 56, 57, 58, 59, 60, 61, 62, 63, 64] (by decide +kernel) (by decide +kernel)) (goodIn_sub (fun _ h => List.mem_cons_of_mem _ (List.mem_append_right _ h)) (by decide +kernel))
set_option maxRecDepth 20000 in
theorem gL_phraseSymbol_X7_phraseSymbol : GoodIn wsL_phraseSymbol (wsV RL 57 RX7 yX7_phraseSymbol wsX7_phraseSymbol) := goodIn_app (goodIn_of _ (by decide +kernel)) ggL_phraseSymbol_X7_phraseSymbol
theorem dL_phraseSymbol_0 : decode cL_phraseSymbol 0 = .ok (.aload_n 3, 1) := by decide +kernel
theorem dL_phraseSymbol_1 : decode cL_phraseSymbol 1 = .ok (.iconst 0, 1) := by decide +kernel
theorem dL_phraseSymbol_2 : decode cL_phraseSymbol 2 = .ok (.aload_n 0, 1) := by decide +kernel
theorem dL_phraseSymbol_3 : decode cL_phraseSymbol 3 = .ok (.iload_n 1, 1) := by decide +kernel
theorem dL_phraseSymbol_4 : decode cL_phraseSymbol 4 = .ok (.iload_n 2, 1) := by decide +kernel
theorem dL_phraseSymbol_5 : decode cL_phraseSymbol 5 = .ok (.invokevirtual 57, 3) := by decide +kernel
theorem dL_phraseSymbol_8 : decode cL_phraseSymbol 8 = .ok (.i2l, 1) := by decide +kernel
theorem dL_phraseSymbol_9 : decode cL_phraseSymbol 9 = .ok (.lastore, 1) := by decide +kernel
theorem dL_phraseSymbol_10 : decode cL_phraseSymbol 10 = .ok (.goto 7, 3) := by decide +kernel
theorem dL_phraseSymbol_13 : decode cL_phraseSymbol 13 = .ok (.astore 4, 2) := by decide +kernel
theorem dL_phraseSymbol_15 : decode cL_phraseSymbol 15 = .ok (.iconst 1, 1) := by decide +kernel
theorem dL_phraseSymbol_16 : decode cL_phraseSymbol 16 = .ok (.ireturn, 1) := by decide +kernel
theorem dL_phraseSymbol_17 : decode cL_phraseSymbol 17 = .ok (.iconst 0, 1) := by decide +kernel
theorem dL_phraseSymbol_18 : decode cL_phraseSymbol 18 = .ok (.ireturn, 1) := by decide +kernel
set_option maxRecDepth 20000 in
theorem ggL_prefixOf_X7_prefixOf : GoodIn wsL_prefixOf wsX7_prefixOf := goodIn_ca (goodIn_ca (goodIn_r _ [7, 8, 9, 10, 11, 12, 13, 6, 14, 15, 16, 17, 18, 19, 20, 21, 22, 23, 24, 25, 26, 27, 28, 29, 30, 31, 32, 33, 34, 35, 36, 37, 38, 39, 40, 41, 42, 43, 44, 45, 46, 47, 48, 49, 50, 51, 52, 53, 54, 55, 56, 57, 58, 59, 60, 61] (by decide +kernel) (by decide +kernel)) (goodIn_sub (fun _ h => List.mem_cons_of_mem _ (List.mem_append_left _ (List.mem_append_right _ h))) (by decide +kernel))) (goodIn_sub (fun _ h => List.mem_cons_of_mem _ (List.mem_append_right _ h)) (by decide +kernel))
set_option maxRecDepth 20000 in
theorem gL_prefixOf_X7_prefixOf : GoodIn wsL_prefixOf (wsV RL 61 RX7 yX7_prefixOf wsX7_prefixOf) := goodIn_app (goodIn_of _ (by decide +kernel)) ggL_prefixOf_X7_prefixOf
theorem dL_prefixOf_0 : decode cL_prefixOf 0 = .ok (.aload_n 2, 1) := by decide +kernel
theorem dL_prefixOf_1 : decode cL_prefixOf 1 = .ok (.iconst 0, 1) := by decide +kernel
theorem dL_prefixOf_2 : decode cL_prefixOf 2 = .ok (.aload_n 0, 1) := by decide +kernel
theorem dL_prefixOf_3 : decode cL_prefixOf 3 = .ok (.iload_n 1, 1) := by decide +kernel
theorem dL_prefixOf_4 : decode cL_prefixOf 4 = .ok (.invokevirtual 61, 3) := by decide +kernel
theorem dL_prefixOf_7 : decode cL_prefixOf 7 = .ok (.i2l, 1) := by decide +kernel
theorem dL_prefixOf_8 : decode cL_prefixOf 8 = .ok (.lastore, 1) := by decide +kernel
theorem dL_prefixOf_9 : decode cL_prefixOf 9 = .ok (.goto 9, 3) := by decide +kernel
theorem dL_prefixOf_12 : decode cL_prefixOf 12 = .ok (.astore_n 3, 1) := by decide +kernel
theorem dL_prefixOf_13 : decode cL_prefixOf 13 = .ok (.iconst 1, 1) := by decide +kernel
theorem dL_prefixOf_14 : decode cL_prefixOf 14 = .ok (.ireturn, 1) := by decide +kernel
theorem dL_prefixOf_15 : decode cL_prefixOf 15 = .ok (.astore_n 3, 1) := by decide +kernel
theorem dL_prefixOf_16 : decode cL_prefixOf 16 = .ok (.iconst 2, 1) := by decide +kernel
theorem dL_prefixOf_17 : decode cL_prefixOf 17 = .ok (.ireturn, 1) := by decide +kernel
theorem dL_prefixOf_18 : decode cL_prefixOf 18 = .ok (.iconst 0, 1) := by decide +kernel
theorem dL_prefixOf_19 : decode cL_prefixOf 19 = .ok (.ireturn, 1) := by decide +kernel
set_option maxRecDepth 20000 in
theorem ggL_extensionOf_X7_extensionOf : GoodIn wsL_extensionOf wsX7_extensionOf := goodIn_ca (goodIn_ca (goodIn_ca (goodIn_r _ [8, 9, 10, 11, 12, 13, 14, 15, 16, 7, 17, 18, 19, 20, 21, 22, 23, 24, 25, 26, 27, 28, 29, 30, 31, 32, 33, 34, 35, 36, 37, 38, 39, 40, 41, 42, 43, 44, 45, 46, 47, 48, 49, 50, 51, 52, 53, 54, 55, 56, 57, 58, 59, 60, 61, 62, 63, 64, 65, 66, 67, 68, 69, 70, 71, 72, 73, 74] (by decide +kernel) (by decide +kernel)) (goodIn_sub (fun _ h => List.mem_cons_of_mem _ (List.mem_append_left _ (List.mem_append_left _ (List.mem_append_right _ h)))) (by decide +kernel))) (goodIn_sub (fun _ h => List.mem_cons_of_mem _ (List.mem_append_left _ (List.mem_append_right _ h))) (by decide +kernel))) (goodIn_sub (fun _ h => List.mem_cons_of_mem _ (List.mem_append_right _ h)) (by decide +kernel))
set_option maxRecDepth 20000 in
theorem gL_extensionOf_X7_extensionOf : GoodIn wsL_extensionOf (wsV RL 64 RX7 yX7_extensionOf wsX7_extensionOf) := goodIn_app (goodIn_of _ (by decide +kernel)) ggL_extensionOf_X7_extensionOf
theorem dL_extensionOf_0 : decode cL_extensionOf 0 = .ok (.aload_n 3, 1) := by decide +kernel
theorem dL_extensionOf_1 : decode cL_extensionOf 1 = .ok (.iconst 0, 1) := by decide +kernel
theorem dL_extensionOf_2 : decode cL_extensionOf 2 = .ok (.aload_n 0, 1) := by decide +kernel
theorem dL_extensionOf_3 : decode cL_extensionOf 3 = .ok (.iload_n 1, 1) := by decide +kernel
theorem dL_extensionOf_4 : decode cL_extensionOf 4 = .ok (.iload_n 2, 1) := by decide +kernel
theorem dL_extensionOf_5 : decode cL_extensionOf 5 = .ok (.invokevirtual 64, 3) := by decide +kernel
theorem dL_extensionOf_8 : decode cL_extensionOf 8 = .ok (.i2l, 1) := by decide +kernel
theorem dL_extensionOf_9 : decode cL_extensionOf 9 = .ok (.lastore, 1) := by decide +kernel
theorem dL_extensionOf_10 : decode cL_extensionOf 10 = .ok (.goto 15, 3) := by decide +kernel
theorem dL_extensionOf_13 : decode cL_extensionOf 13 = .ok (.astore 4, 2) := by decide +kernel
theorem dL_extensionOf_15 : decode cL_extensionOf 15 = .ok (.iconst 1, 1) := by decide +kernel
theorem dL_extensionOf_16 : decode cL_extensionOf 16 = .ok (.ireturn, 1) := by decide +kernel
theorem dL_extensionOf_17 : decode cL_extensionOf 17 = .ok (.astore 4, 2) := by decide +kernel
theorem dL_extensionOf_19 : decode cL_extensionOf 19 = .ok (.iconst 2, 1) := by decide +kernel
theorem dL_extensionOf_20 : decode cL_extensionOf 20 = .ok (.ireturn, 1) := by decide +kernel
theorem dL_extensionOf_21 : decode cL_extensionOf 21 = .ok (.astore 4, 2) := by decide +kernel
theorem dL_extensionOf_23 : decode cL_extensionOf 23 = .ok (.iconst 3, 1) := by decide +kernel
theorem dL_extensionOf_24 : decode cL_extensionOf 24 = .ok (.ireturn, 1) := by decide +kernel
theorem dL_extensionOf_25 : decode cL_extensionOf 25 = .ok (.iconst 0, 1) := by decide +kernel
theorem dL_extensionOf_26 : decode cL_extensionOf 26 = .ok (.ireturn, 1) := by decide +kernel
set_option maxRecDepth 20000 in
theorem ggL_extensionCount_X7_extensionCount : GoodIn wsL_extensionCount wsX7_extensionCount := goodIn_ca (goodIn_r _ [6, 7, 8, 9, 10, 5, 11, 12, 13, 14, 15, 16, 17, 18, 19, 20, 21, 22, 23, 24, 25, 26, 27, 28, 29, 30, 31, 32, 33, 34, 35, 36, 37, 38, 39, 40, 41, 42, 43, 44, 45, 46, 47, 48, 49, 50, 51, 52, 53, 54, 55, 56, 57, 58, 59] (by decide +kernel) (by decide +kernel)) (goodIn_sub (fun _ h => List.mem_cons_of_mem _ (List.mem_append_right _ h)) (by decide +kernel))
set_option maxRecDepth 20000 in
theorem gL_extensionCount_X7_extensionCount : GoodIn wsL_extensionCount (wsV RL 67 RX7 yX7_extensionCount wsX7_extensionCount) := goodIn_app (goodIn_of _ (by decide +kernel)) ggL_extensionCount_X7_extensionCount
theorem dL_extensionCount_0 : decode cL_extensionCount 0 = .ok (.aload_n 2, 1) := by decide +kernel
theorem dL_extensionCount_1 : decode cL_extensionCount 1 = .ok (.iconst 0, 1) := by decide +kernel
theorem dL_extensionCount_2 : decode cL_extensionCount 2 = .ok (.aload_n 0, 1) := by decide +kernel
theorem dL_extensionCount_3 : decode cL_extensionCount 3 = .ok (.iload_n 1, 1) := by decide +kernel
theorem dL_extensionCount_4 : decode cL_extensionCount 4 = .ok (.invokevirtual 67, 3) := by decide +kernel
theorem dL_extensionCount_7 : decode cL_extensionCount 7 = .ok (.i2l, 1) := by decide +kernel
theorem dL_extensionCount_8 : decode cL_extensionCount 8 = .ok (.lastore, 1) := by decide +kernel
theorem dL_extensionCount_9 : decode cL_extensionCount 9 = .ok (.goto 6, 3) := by decide +kernel
theorem dL_extensionCount_12 : decode cL_extensionCount 12 = .ok (.astore_n 3, 1) := by decide +kernel
theorem dL_extensionCount_13 : decode cL_extensionCount 13 = .ok (.iconst 1, 1) := by decide +kernel
theorem dL_extensionCount_14 : decode cL_extensionCount 14 = .ok (.ireturn, 1) := by decide +kernel
theorem dL_extensionCount_15 : decode cL_extensionCount 15 = .ok (.iconst 0, 1) := by decide +kernel
theorem dL_extensionCount_16 : decode cL_extensionCount 16 = .ok (.ireturn, 1) := by decide +kernel
set_option maxRecDepth 20000 in
theorem ggL_usesOf_X7_usesOf : GoodIn wsL_usesOf wsX7_usesOf := goodIn_ca (goodIn_r _ [6, 7, 8, 9, 10, 5, 11, 12, 13, 14, 15, 16, 17, 18, 19, 20, 21, 22, 23, 24, 25, 26, 27, 28, 29, 30, 31, 32, 33, 34, 35, 36, 37, 38, 39, 40, 41, 42, 43, 44, 45, 46, 47, 48, 49, 50, 51, 52, 53, 54, 55, 56, 57, 58] (by decide +kernel) (by decide +kernel)) (goodIn_sub (fun _ h => List.mem_cons_of_mem _ (List.mem_append_right _ h)) (by decide +kernel))
set_option maxRecDepth 20000 in
theorem gL_usesOf_X7_usesOf : GoodIn wsL_usesOf (wsV RL 70 RX7 yX7_usesOf wsX7_usesOf) := goodIn_app (goodIn_of _ (by decide +kernel)) ggL_usesOf_X7_usesOf
theorem dL_usesOf_0 : decode cL_usesOf 0 = .ok (.aload_n 2, 1) := by decide +kernel
theorem dL_usesOf_1 : decode cL_usesOf 1 = .ok (.iconst 0, 1) := by decide +kernel
theorem dL_usesOf_2 : decode cL_usesOf 2 = .ok (.aload_n 0, 1) := by decide +kernel
theorem dL_usesOf_3 : decode cL_usesOf 3 = .ok (.iload_n 1, 1) := by decide +kernel
theorem dL_usesOf_4 : decode cL_usesOf 4 = .ok (.invokevirtual 70, 3) := by decide +kernel
theorem dL_usesOf_7 : decode cL_usesOf 7 = .ok (.i2l, 1) := by decide +kernel
theorem dL_usesOf_8 : decode cL_usesOf 8 = .ok (.lastore, 1) := by decide +kernel
theorem dL_usesOf_9 : decode cL_usesOf 9 = .ok (.goto 6, 3) := by decide +kernel
theorem dL_usesOf_12 : decode cL_usesOf 12 = .ok (.astore_n 3, 1) := by decide +kernel
theorem dL_usesOf_13 : decode cL_usesOf 13 = .ok (.iconst 1, 1) := by decide +kernel
theorem dL_usesOf_14 : decode cL_usesOf 14 = .ok (.ireturn, 1) := by decide +kernel
theorem dL_usesOf_15 : decode cL_usesOf 15 = .ok (.iconst 0, 1) := by decide +kernel
theorem dL_usesOf_16 : decode cL_usesOf 16 = .ok (.ireturn, 1) := by decide +kernel
set_option maxRecDepth 20000 in
theorem ggL_findTape_X7_findTape : GoodIn wsL_findTape wsX7_findTape := goodIn_ca (goodIn_r _ [6, 7, 8, 9, 10, 11, 5, 12, 13, 14, 15, 16, 17, 18, 19, 20, 21, 22, 23, 24, 25, 26, 27, 28, 29, 30, 31, 32, 33, 34, 35, 36, 37, 38, 39, 40, 41, 42, 43, 44, 45, 46, 47, 48, 49, 50, 51, 52, 53, 54, 55, 56, 57, 58, 59, 60, 61, 62, 63, 64] (by decide +kernel) (by decide +kernel)) (goodIn_sub (fun _ h => List.mem_cons_of_mem _ (List.mem_append_right _ h)) (by decide +kernel))
set_option maxRecDepth 20000 in
theorem gL_findTape_X7_findTape : GoodIn wsL_findTape (wsV RL 73 RX7 yX7_findTape wsX7_findTape) := goodIn_app (goodIn_of _ (by decide +kernel)) ggL_findTape_X7_findTape
theorem dL_findTape_0 : decode cL_findTape 0 = .ok (.aload_n 1, 1) := by decide +kernel
theorem dL_findTape_1 : decode cL_findTape 1 = .ok (.iconst 0, 1) := by decide +kernel
theorem dL_findTape_2 : decode cL_findTape 2 = .ok (.aload_n 0, 1) := by decide +kernel
theorem dL_findTape_3 : decode cL_findTape 3 = .ok (.invokevirtual 73, 3) := by decide +kernel
theorem dL_findTape_6 : decode cL_findTape 6 = .ok (.i2l, 1) := by decide +kernel
theorem dL_findTape_7 : decode cL_findTape 7 = .ok (.lastore, 1) := by decide +kernel
theorem dL_findTape_8 : decode cL_findTape 8 = .ok (.goto 6, 3) := by decide +kernel
theorem dL_findTape_11 : decode cL_findTape 11 = .ok (.astore_n 2, 1) := by decide +kernel
theorem dL_findTape_12 : decode cL_findTape 12 = .ok (.iconst 1, 1) := by decide +kernel
theorem dL_findTape_13 : decode cL_findTape 13 = .ok (.ireturn, 1) := by decide +kernel
theorem dL_findTape_14 : decode cL_findTape 14 = .ok (.iconst 0, 1) := by decide +kernel
theorem dL_findTape_15 : decode cL_findTape 15 = .ok (.ireturn, 1) := by decide +kernel
set_option maxRecDepth 20000 in
theorem ggL_currentPhrase_X7_currentPhrase : GoodIn wsL_currentPhrase wsX7_currentPhrase := goodIn_ca (goodIn_r _ [6, 7, 8, 9, 10, 11, 12, 13, 14, 15, 16, 17, 18, 19, 20, 21, 22, 23, 24, 25, 26, 27, 28, 29, 30, 31, 32, 33, 34] (by decide +kernel) (by decide +kernel)) (goodIn_sub (fun _ h => List.mem_cons_of_mem _ (List.mem_append_right _ h)) (by decide +kernel))
set_option maxRecDepth 20000 in
theorem gL_currentPhrase_X7_currentPhrase : GoodIn wsL_currentPhrase (wsV RL 76 RX7 yX7_currentPhrase wsX7_currentPhrase) := goodIn_app (goodIn_of _ (by decide +kernel)) ggL_currentPhrase_X7_currentPhrase
theorem dL_currentPhrase_0 : decode cL_currentPhrase 0 = .ok (.aload_n 1, 1) := by decide +kernel
theorem dL_currentPhrase_1 : decode cL_currentPhrase 1 = .ok (.iconst 0, 1) := by decide +kernel
theorem dL_currentPhrase_2 : decode cL_currentPhrase 2 = .ok (.aload_n 0, 1) := by decide +kernel
theorem dL_currentPhrase_3 : decode cL_currentPhrase 3 = .ok (.invokevirtual 76, 3) := by decide +kernel
theorem dL_currentPhrase_6 : decode cL_currentPhrase 6 = .ok (.i2l, 1) := by decide +kernel
theorem dL_currentPhrase_7 : decode cL_currentPhrase 7 = .ok (.lastore, 1) := by decide +kernel
theorem dL_currentPhrase_8 : decode cL_currentPhrase 8 = .ok (.goto 6, 3) := by decide +kernel
theorem dL_currentPhrase_11 : decode cL_currentPhrase 11 = .ok (.astore_n 2, 1) := by decide +kernel
theorem dL_currentPhrase_12 : decode cL_currentPhrase 12 = .ok (.iconst 1, 1) := by decide +kernel
theorem dL_currentPhrase_13 : decode cL_currentPhrase 13 = .ok (.ireturn, 1) := by decide +kernel
theorem dL_currentPhrase_14 : decode cL_currentPhrase 14 = .ok (.iconst 0, 1) := by decide +kernel
theorem dL_currentPhrase_15 : decode cL_currentPhrase 15 = .ok (.ireturn, 1) := by decide +kernel
set_option maxRecDepth 20000 in
theorem ggL_codesIfEncoded_X7_codesIfEncoded : GoodIn wsL_codesIfEncoded wsX7_codesIfEncoded := goodIn_ca (goodIn_r _ [6, 7, 8, 9, 10, 5, 11, 12, 13, 14, 15, 16, 17, 18, 19, 20, 21, 22, 23, 24, 25, 26, 27, 28, 29, 30, 31, 32, 33, 34, 35, 36, 37, 38, 39, 40, 41, 42, 43, 44, 45, 46, 47, 48, 49, 50, 51, 52, 53, 54, 55, 56, 57, 58, 59, 60, 61, 62, 63, 64, 65, 66, 67, 68, 69, 70, 71, 72, 73, 74, 75, 76, 77, 78, 79, 80, 81, 82, 83, 84, 85, 86, 87, 88, 89, 90, 91, 92, 93, 94, 95, 96, 97, 98, 99, 100, 101, 102, 103, 104, 105] (by decide +kernel) (by decide +kernel)) (goodIn_sub (fun _ h => List.mem_cons_of_mem _ (List.mem_append_right _ h)) (by decide +kernel))
set_option maxRecDepth 20000 in
theorem gL_codesIfEncoded_X7_codesIfEncoded : GoodIn wsL_codesIfEncoded (wsV RL 79 RX7 yX7_codesIfEncoded wsX7_codesIfEncoded) := goodIn_app (goodIn_of _ (by decide +kernel)) ggL_codesIfEncoded_X7_codesIfEncoded
theorem dL_codesIfEncoded_0 : decode cL_codesIfEncoded 0 = .ok (.aload_n 2, 1) := by decide +kernel
theorem dL_codesIfEncoded_1 : decode cL_codesIfEncoded 1 = .ok (.iconst 0, 1) := by decide +kernel
theorem dL_codesIfEncoded_2 : decode cL_codesIfEncoded 2 = .ok (.aload_n 0, 1) := by decide +kernel
theorem dL_codesIfEncoded_3 : decode cL_codesIfEncoded 3 = .ok (.iload_n 1, 1) := by decide +kernel
theorem dL_codesIfEncoded_4 : decode cL_codesIfEncoded 4 = .ok (.invokevirtual 79, 3) := by decide +kernel
theorem dL_codesIfEncoded_7 : decode cL_codesIfEncoded 7 = .ok (.i2l, 1) := by decide +kernel
theorem dL_codesIfEncoded_8 : decode cL_codesIfEncoded 8 = .ok (.lastore, 1) := by decide +kernel
theorem dL_codesIfEncoded_9 : decode cL_codesIfEncoded 9 = .ok (.goto 6, 3) := by decide +kernel
theorem dL_codesIfEncoded_12 : decode cL_codesIfEncoded 12 = .ok (.astore_n 3, 1) := by decide +kernel
theorem dL_codesIfEncoded_13 : decode cL_codesIfEncoded 13 = .ok (.iconst 1, 1) := by decide +kernel
theorem dL_codesIfEncoded_14 : decode cL_codesIfEncoded 14 = .ok (.ireturn, 1) := by decide +kernel
theorem dL_codesIfEncoded_15 : decode cL_codesIfEncoded 15 = .ok (.iconst 0, 1) := by decide +kernel
theorem dL_codesIfEncoded_16 : decode cL_codesIfEncoded 16 = .ok (.ireturn, 1) := by decide +kernel
set_option maxRecDepth 20000 in
theorem ggL_clearsIfEncoded_X7_clearsIfEncoded : GoodIn wsL_clearsIfEncoded wsX7_clearsIfEncoded := goodIn_ca (goodIn_r _ [6, 7, 8, 9, 10, 5, 11, 12, 13, 14, 15, 16, 17, 18, 19, 20, 21, 22, 23, 24, 25, 26, 27, 28, 29, 30, 31, 32, 33, 34, 35, 36, 37, 38, 39, 40, 41, 42, 43, 44, 45, 46, 47, 48, 49, 50, 51, 52, 53, 54, 55, 56, 57, 58, 59, 60, 61, 62, 63, 64, 65, 66, 67, 68, 69, 70, 71, 72, 73, 74, 75, 76, 77, 78, 79, 80, 81, 82, 83, 84, 85, 86, 87, 88, 89, 90, 91, 92, 93, 94, 95, 96, 97, 98, 99, 100, 101, 102, 103, 104, 105] (by decide +kernel) (by decide +kernel)) (goodIn_sub (fun _ h => List.mem_cons_of_mem _ (List.mem_append_right _ h)) (by decide +kernel))
set_option maxRecDepth 20000 in
theorem gL_clearsIfEncoded_X7_clearsIfEncoded : GoodIn wsL_clearsIfEncoded (wsV RL 82 RX7 yX7_clearsIfEncoded wsX7_clearsIfEncoded) := goodIn_app (goodIn_of _ (by decide +kernel)) ggL_clearsIfEncoded_X7_clearsIfEncoded
theorem dL_clearsIfEncoded_0 : decode cL_clearsIfEncoded 0 = .ok (.aload_n 2, 1) := by decide +kernel
theorem dL_clearsIfEncoded_1 : decode cL_clearsIfEncoded 1 = .ok (.iconst 0, 1) := by decide +kernel
theorem dL_clearsIfEncoded_2 : decode cL_clearsIfEncoded 2 = .ok (.aload_n 0, 1) := by decide +kernel
theorem dL_clearsIfEncoded_3 : decode cL_clearsIfEncoded 3 = .ok (.iload_n 1, 1) := by decide +kernel
theorem dL_clearsIfEncoded_4 : decode cL_clearsIfEncoded 4 = .ok (.invokevirtual 82, 3) := by decide +kernel
theorem dL_clearsIfEncoded_7 : decode cL_clearsIfEncoded 7 = .ok (.i2l, 1) := by decide +kernel
theorem dL_clearsIfEncoded_8 : decode cL_clearsIfEncoded 8 = .ok (.lastore, 1) := by decide +kernel
theorem dL_clearsIfEncoded_9 : decode cL_clearsIfEncoded 9 = .ok (.goto 6, 3) := by decide +kernel
theorem dL_clearsIfEncoded_12 : decode cL_clearsIfEncoded 12 = .ok (.astore_n 3, 1) := by decide +kernel
theorem dL_clearsIfEncoded_13 : decode cL_clearsIfEncoded 13 = .ok (.iconst 1, 1) := by decide +kernel
theorem dL_clearsIfEncoded_14 : decode cL_clearsIfEncoded 14 = .ok (.ireturn, 1) := by decide +kernel
theorem dL_clearsIfEncoded_15 : decode cL_clearsIfEncoded 15 = .ok (.iconst 0, 1) := by decide +kernel
theorem dL_clearsIfEncoded_16 : decode cL_clearsIfEncoded 16 = .ok (.ireturn, 1) := by decide +kernel
set_option maxRecDepth 20000 in
theorem ggL_encodedSymbol_X7_encodedSymbol : GoodIn wsL_encodedSymbol wsX7_encodedSymbol := goodIn_ca (goodIn_r _ [6, 7, 8, 9, 5, 10, 11, 12, 13, 14, 15, 16, 17, 18, 19, 20, 21, 22, 23, 24, 25, 26, 27, 28, 29, 30, 31, 32, 33, 34, 35, 36, 37, 38, 39, 40] (by decide +kernel) (by decide +kernel)) (goodIn_sub (fun _ h => List.mem_cons_of_mem _ (List.mem_append_right _ h)) (by decide +kernel))
set_option maxRecDepth 20000 in
theorem gL_encodedSymbol_X7_encodedSymbol : GoodIn wsL_encodedSymbol (wsV RL 85 RX7 yX7_encodedSymbol wsX7_encodedSymbol) := goodIn_app (goodIn_of _ (by decide +kernel)) ggL_encodedSymbol_X7_encodedSymbol
theorem dL_encodedSymbol_0 : decode cL_encodedSymbol 0 = .ok (.aload_n 2, 1) := by decide +kernel
theorem dL_encodedSymbol_1 : decode cL_encodedSymbol 1 = .ok (.iconst 0, 1) := by decide +kernel
theorem dL_encodedSymbol_2 : decode cL_encodedSymbol 2 = .ok (.aload_n 0, 1) := by decide +kernel
theorem dL_encodedSymbol_3 : decode cL_encodedSymbol 3 = .ok (.iload_n 1, 1) := by decide +kernel
theorem dL_encodedSymbol_4 : decode cL_encodedSymbol 4 = .ok (.invokevirtual 85, 3) := by decide +kernel
theorem dL_encodedSymbol_7 : decode cL_encodedSymbol 7 = .ok (.i2l, 1) := by decide +kernel
theorem dL_encodedSymbol_8 : decode cL_encodedSymbol 8 = .ok (.lastore, 1) := by decide +kernel
theorem dL_encodedSymbol_9 : decode cL_encodedSymbol 9 = .ok (.goto 6, 3) := by decide +kernel
theorem dL_encodedSymbol_12 : decode cL_encodedSymbol 12 = .ok (.astore_n 3, 1) := by decide +kernel
theorem dL_encodedSymbol_13 : decode cL_encodedSymbol 13 = .ok (.iconst 1, 1) := by decide +kernel
theorem dL_encodedSymbol_14 : decode cL_encodedSymbol 14 = .ok (.ireturn, 1) := by decide +kernel
theorem dL_encodedSymbol_15 : decode cL_encodedSymbol 15 = .ok (.iconst 0, 1) := by decide +kernel
theorem dL_encodedSymbol_16 : decode cL_encodedSymbol 16 = .ok (.ireturn, 1) := by decide +kernel
set_option maxRecDepth 20000 in
theorem ggL_writtenCode_X7_writtenCode : GoodIn wsL_writtenCode wsX7_writtenCode := goodIn_ca (goodIn_r _ [6, 7, 8, 9, 5, 10, 11, 12, 13, 14, 15, 16, 17, 18, 19, 20, 21, 22, 23, 24, 25, 26, 27, 28, 29, 30, 31, 32, 33, 34, 35, 36, 37, 38, 39, 40] (by decide +kernel) (by decide +kernel)) (goodIn_sub (fun _ h => List.mem_cons_of_mem _ (List.mem_append_right _ h)) (by decide +kernel))
set_option maxRecDepth 20000 in
theorem gL_writtenCode_X7_writtenCode : GoodIn wsL_writtenCode (wsV RL 88 RX7 yX7_writtenCode wsX7_writtenCode) := goodIn_app (goodIn_of _ (by decide +kernel)) ggL_writtenCode_X7_writtenCode
theorem dL_writtenCode_0 : decode cL_writtenCode 0 = .ok (.aload_n 2, 1) := by decide +kernel
theorem dL_writtenCode_1 : decode cL_writtenCode 1 = .ok (.iconst 0, 1) := by decide +kernel
theorem dL_writtenCode_2 : decode cL_writtenCode 2 = .ok (.aload_n 0, 1) := by decide +kernel
theorem dL_writtenCode_3 : decode cL_writtenCode 3 = .ok (.iload_n 1, 1) := by decide +kernel
theorem dL_writtenCode_4 : decode cL_writtenCode 4 = .ok (.invokevirtual 88, 3) := by decide +kernel
theorem dL_writtenCode_7 : decode cL_writtenCode 7 = .ok (.i2l, 1) := by decide +kernel
theorem dL_writtenCode_8 : decode cL_writtenCode 8 = .ok (.lastore, 1) := by decide +kernel
theorem dL_writtenCode_9 : decode cL_writtenCode 9 = .ok (.goto 6, 3) := by decide +kernel
theorem dL_writtenCode_12 : decode cL_writtenCode 12 = .ok (.astore_n 3, 1) := by decide +kernel
theorem dL_writtenCode_13 : decode cL_writtenCode 13 = .ok (.iconst 1, 1) := by decide +kernel
theorem dL_writtenCode_14 : decode cL_writtenCode 14 = .ok (.ireturn, 1) := by decide +kernel
theorem dL_writtenCode_15 : decode cL_writtenCode 15 = .ok (.iconst 0, 1) := by decide +kernel
theorem dL_writtenCode_16 : decode cL_writtenCode 16 = .ok (.ireturn, 1) := by decide +kernel
set_option maxRecDepth 20000 in
theorem ggL_writtenWidth_X7_writtenWidth : GoodIn wsL_writtenWidth wsX7_writtenWidth := goodIn_ca (goodIn_r _ [6, 7, 8, 9, 5, 10, 11, 12, 13, 14, 15, 16, 17, 18, 19, 20, 21, 22, 23, 24, 25, 26, 27, 28, 29, 30, 31, 32, 33, 34, 35, 36, 37, 38, 39, 40] (by decide +kernel) (by decide +kernel)) (goodIn_sub (fun _ h => List.mem_cons_of_mem _ (List.mem_append_right _ h)) (by decide +kernel))
set_option maxRecDepth 20000 in
theorem gL_writtenWidth_X7_writtenWidth : GoodIn wsL_writtenWidth (wsV RL 91 RX7 yX7_writtenWidth wsX7_writtenWidth) := goodIn_app (goodIn_of _ (by decide +kernel)) ggL_writtenWidth_X7_writtenWidth
theorem dL_writtenWidth_0 : decode cL_writtenWidth 0 = .ok (.aload_n 2, 1) := by decide +kernel
theorem dL_writtenWidth_1 : decode cL_writtenWidth 1 = .ok (.iconst 0, 1) := by decide +kernel
theorem dL_writtenWidth_2 : decode cL_writtenWidth 2 = .ok (.aload_n 0, 1) := by decide +kernel
theorem dL_writtenWidth_3 : decode cL_writtenWidth 3 = .ok (.iload_n 1, 1) := by decide +kernel
theorem dL_writtenWidth_4 : decode cL_writtenWidth 4 = .ok (.invokevirtual 91, 3) := by decide +kernel
theorem dL_writtenWidth_7 : decode cL_writtenWidth 7 = .ok (.i2l, 1) := by decide +kernel
theorem dL_writtenWidth_8 : decode cL_writtenWidth 8 = .ok (.lastore, 1) := by decide +kernel
theorem dL_writtenWidth_9 : decode cL_writtenWidth 9 = .ok (.goto 6, 3) := by decide +kernel
theorem dL_writtenWidth_12 : decode cL_writtenWidth 12 = .ok (.astore_n 3, 1) := by decide +kernel
theorem dL_writtenWidth_13 : decode cL_writtenWidth 13 = .ok (.iconst 1, 1) := by decide +kernel
theorem dL_writtenWidth_14 : decode cL_writtenWidth 14 = .ok (.ireturn, 1) := by decide +kernel
theorem dL_writtenWidth_15 : decode cL_writtenWidth 15 = .ok (.iconst 0, 1) := by decide +kernel
theorem dL_writtenWidth_16 : decode cL_writtenWidth 16 = .ok (.ireturn, 1) := by decide +kernel
set_option maxRecDepth 20000 in
theorem ggL_bitAt_X7_bitAt : GoodIn wsL_bitAt wsX7_bitAt := goodIn_ca (goodIn_r _ [6, 7, 8, 9, 5, 10, 11, 12, 13, 14, 15, 16, 17, 18, 19, 20, 21, 22, 23, 24, 25, 26, 27, 28, 29, 30, 31, 32, 33, 34, 35, 36, 37, 38, 39, 40, 41, 42, 43, 44, 45, 46, 47, 48, 49, 50, 51] (by decide +kernel) (by decide +kernel)) (goodIn_sub (fun _ h => List.mem_cons_of_mem _ (List.mem_append_right _ h)) (by decide +kernel))
set_option maxRecDepth 20000 in
theorem gL_bitAt_X7_bitAt : GoodIn wsL_bitAt (wsV RL 94 RX7 yX7_bitAt wsX7_bitAt) := goodIn_app (goodIn_of _ (by decide +kernel)) ggL_bitAt_X7_bitAt
theorem dL_bitAt_0 : decode cL_bitAt 0 = .ok (.aload_n 2, 1) := by decide +kernel
theorem dL_bitAt_1 : decode cL_bitAt 1 = .ok (.iconst 0, 1) := by decide +kernel
theorem dL_bitAt_2 : decode cL_bitAt 2 = .ok (.aload_n 0, 1) := by decide +kernel
theorem dL_bitAt_3 : decode cL_bitAt 3 = .ok (.iload_n 1, 1) := by decide +kernel
theorem dL_bitAt_4 : decode cL_bitAt 4 = .ok (.invokevirtual 94, 3) := by decide +kernel
theorem dL_bitAt_7 : decode cL_bitAt 7 = .ok (.i2l, 1) := by decide +kernel
theorem dL_bitAt_8 : decode cL_bitAt 8 = .ok (.lastore, 1) := by decide +kernel
theorem dL_bitAt_9 : decode cL_bitAt 9 = .ok (.goto 6, 3) := by decide +kernel
theorem dL_bitAt_12 : decode cL_bitAt 12 = .ok (.astore_n 3, 1) := by decide +kernel
theorem dL_bitAt_13 : decode cL_bitAt 13 = .ok (.iconst 1, 1) := by decide +kernel
theorem dL_bitAt_14 : decode cL_bitAt 14 = .ok (.ireturn, 1) := by decide +kernel
theorem dL_bitAt_15 : decode cL_bitAt 15 = .ok (.iconst 0, 1) := by decide +kernel
theorem dL_bitAt_16 : decode cL_bitAt 16 = .ok (.ireturn, 1) := by decide +kernel
set_option maxRecDepth 20000 in
theorem ggL_byteAt_X7_byteAt : GoodIn wsL_byteAt wsX7_byteAt := goodIn_ca (goodIn_r _ [6, 7, 8, 9, 10, 5, 11, 12, 13, 14, 15, 16, 17, 18, 19, 20, 21, 22, 23, 24, 25, 26, 27, 28, 29, 30, 31, 32, 33, 34, 35, 36, 37, 38, 39, 40, 41, 42, 43, 44, 45, 46, 47, 48, 49, 50, 51, 52, 53, 54, 55] (by decide +kernel) (by decide +kernel)) (goodIn_sub (fun _ h => List.mem_cons_of_mem _ (List.mem_append_right _ h)) (by decide +kernel))
set_option maxRecDepth 20000 in
theorem gL_byteAt_X7_byteAt : GoodIn wsL_byteAt (wsV RL 97 RX7 yX7_byteAt wsX7_byteAt) := goodIn_app (goodIn_of _ (by decide +kernel)) ggL_byteAt_X7_byteAt
theorem dL_byteAt_0 : decode cL_byteAt 0 = .ok (.aload_n 2, 1) := by decide +kernel
theorem dL_byteAt_1 : decode cL_byteAt 1 = .ok (.iconst 0, 1) := by decide +kernel
theorem dL_byteAt_2 : decode cL_byteAt 2 = .ok (.aload_n 0, 1) := by decide +kernel
theorem dL_byteAt_3 : decode cL_byteAt 3 = .ok (.iload_n 1, 1) := by decide +kernel
theorem dL_byteAt_4 : decode cL_byteAt 4 = .ok (.invokevirtual 97, 3) := by decide +kernel
theorem dL_byteAt_7 : decode cL_byteAt 7 = .ok (.i2l, 1) := by decide +kernel
theorem dL_byteAt_8 : decode cL_byteAt 8 = .ok (.lastore, 1) := by decide +kernel
theorem dL_byteAt_9 : decode cL_byteAt 9 = .ok (.goto 6, 3) := by decide +kernel
theorem dL_byteAt_12 : decode cL_byteAt 12 = .ok (.astore_n 3, 1) := by decide +kernel
theorem dL_byteAt_13 : decode cL_byteAt 13 = .ok (.iconst 1, 1) := by decide +kernel
theorem dL_byteAt_14 : decode cL_byteAt 14 = .ok (.ireturn, 1) := by decide +kernel
theorem dL_byteAt_15 : decode cL_byteAt 15 = .ok (.iconst 0, 1) := by decide +kernel
theorem dL_byteAt_16 : decode cL_byteAt 16 = .ok (.ireturn, 1) := by decide +kernel
set_option maxRecDepth 20000 in
theorem ggL_decodedSymbol_X7_decodedSymbol : GoodIn wsL_decodedSymbol wsX7_decodedSymbol := goodIn_ca (goodIn_r _ [6, 7, 8, 9, 10, 5, 11, 12, 13, 14, 15, 16, 17, 18, 19, 20, 21, 22, 23, 24, 25, 26, 27] (by decide +kernel) (by decide +kernel)) (goodIn_sub (fun _ h => List.mem_cons_of_mem _ (List.mem_append_right _ h)) (by decide +kernel))
set_option maxRecDepth 20000 in
theorem gL_decodedSymbol_X7_decodedSymbol : GoodIn wsL_decodedSymbol (wsV RL 100 RX7 yX7_decodedSymbol wsX7_decodedSymbol) := goodIn_app (goodIn_of _ (by decide +kernel)) ggL_decodedSymbol_X7_decodedSymbol
theorem dL_decodedSymbol_0 : decode cL_decodedSymbol 0 = .ok (.aload_n 2, 1) := by decide +kernel
theorem dL_decodedSymbol_1 : decode cL_decodedSymbol 1 = .ok (.iconst 0, 1) := by decide +kernel
theorem dL_decodedSymbol_2 : decode cL_decodedSymbol 2 = .ok (.aload_n 0, 1) := by decide +kernel
theorem dL_decodedSymbol_3 : decode cL_decodedSymbol 3 = .ok (.iload_n 1, 1) := by decide +kernel
theorem dL_decodedSymbol_4 : decode cL_decodedSymbol 4 = .ok (.invokevirtual 100, 3) := by decide +kernel
theorem dL_decodedSymbol_7 : decode cL_decodedSymbol 7 = .ok (.i2l, 1) := by decide +kernel
theorem dL_decodedSymbol_8 : decode cL_decodedSymbol 8 = .ok (.lastore, 1) := by decide +kernel
theorem dL_decodedSymbol_9 : decode cL_decodedSymbol 9 = .ok (.goto 6, 3) := by decide +kernel
theorem dL_decodedSymbol_12 : decode cL_decodedSymbol 12 = .ok (.astore_n 3, 1) := by decide +kernel
theorem dL_decodedSymbol_13 : decode cL_decodedSymbol 13 = .ok (.iconst 1, 1) := by decide +kernel
theorem dL_decodedSymbol_14 : decode cL_decodedSymbol 14 = .ok (.ireturn, 1) := by decide +kernel
theorem dL_decodedSymbol_15 : decode cL_decodedSymbol 15 = .ok (.iconst 0, 1) := by decide +kernel
theorem dL_decodedSymbol_16 : decode cL_decodedSymbol 16 = .ok (.ireturn, 1) := by decide +kernel
set_option maxRecDepth 20000 in
theorem ggL_setupByte_X7_setupByte : GoodIn wsL_setupByte wsX7_setupByte := goodIn_ca (goodIn_r _ [6, 7, 8, 9, 10, 11, 12, 13, 14, 15, 16, 17, 18, 19, 20, 21, 22, 23, 24, 25, 26, 27, 28, 29, 30, 31, 32, 33, 34, 35, 36, 37, 38, 39, 40, 41, 42, 43, 44, 45, 46, 47, 48, 49, 50, 51, 52, 53, 54, 55, 56, 57, 58, 59, 60, 61, 62, 63, 64, 65, 66, 67, 68, 69, 70, 71, 72, 73, 5, 74, 75, 76, 77, 78, 79, 80, 81, 82, 83, 84, 85, 86, 87, 88, 89, 90, 91, 92, 93, 94, 95, 96, 97, 98, 99, 100, 101, 102, 103, 104, 105, 106, 107, 108, 109, 110, 111, 112, 113, 114, 115, 116, 117, 118, 119, 120, 121, 122, 123, 124, 125, 126, 127] (by decide +kernel) (by decide +kernel)) (goodIn_sub (fun _ h => List.mem_cons_of_mem _ (List.mem_append_right _ h)) (by decide +kernel))
set_option maxRecDepth 20000 in
theorem gL_setupByte_X7_setupByte : GoodIn wsL_setupByte (wsV RL 103 RX7 yX7_setupByte wsX7_setupByte) := goodIn_app (goodIn_of _ (by decide +kernel)) ggL_setupByte_X7_setupByte
theorem dL_setupByte_0 : decode cL_setupByte 0 = .ok (.aload_n 2, 1) := by decide +kernel
theorem dL_setupByte_1 : decode cL_setupByte 1 = .ok (.iconst 0, 1) := by decide +kernel
theorem dL_setupByte_2 : decode cL_setupByte 2 = .ok (.aload_n 0, 1) := by decide +kernel
theorem dL_setupByte_3 : decode cL_setupByte 3 = .ok (.iload_n 1, 1) := by decide +kernel
theorem dL_setupByte_4 : decode cL_setupByte 4 = .ok (.invokevirtual 103, 3) := by decide +kernel
theorem dL_setupByte_7 : decode cL_setupByte 7 = .ok (.i2l, 1) := by decide +kernel
theorem dL_setupByte_8 : decode cL_setupByte 8 = .ok (.lastore, 1) := by decide +kernel
theorem dL_setupByte_9 : decode cL_setupByte 9 = .ok (.goto 6, 3) := by decide +kernel
theorem dL_setupByte_12 : decode cL_setupByte 12 = .ok (.astore_n 3, 1) := by decide +kernel
theorem dL_setupByte_13 : decode cL_setupByte 13 = .ok (.iconst 1, 1) := by decide +kernel
theorem dL_setupByte_14 : decode cL_setupByte 14 = .ok (.ireturn, 1) := by decide +kernel
theorem dL_setupByte_15 : decode cL_setupByte 15 = .ok (.iconst 0, 1) := by decide +kernel
theorem dL_setupByte_16 : decode cL_setupByte 16 = .ok (.ireturn, 1) := by decide +kernel
