theorem dX7_clearsIfEncoded_9 : decode cX7_clearsIfEncoded 9 = .ok (.iload_n 1, 1) := by decide +kernel
theorem dX7_clearsIfEncoded_10 : decode cX7_clearsIfEncoded 10 = .ok (.invokevirtual 285, 3) := by decide +kernel
theorem dX7_clearsIfEncoded_13 : decode cX7_clearsIfEncoded 13 = .ok (.iconst 2, 1) := by decide +kernel
theorem dX7_clearsIfEncoded_14 : decode cX7_clearsIfEncoded 14 = .ok (.if_icmp .ne 7, 3) := by decide +kernel
theorem dX7_clearsIfEncoded_17 : decode cX7_clearsIfEncoded 17 = .ok (.iconst 1, 1) := by decide +kernel
theorem dX7_clearsIfEncoded_18 : decode cX7_clearsIfEncoded 18 = .ok (.goto 4, 3) := by decide +kernel
theorem dX7_clearsIfEncoded_21 : decode cX7_clearsIfEncoded 21 = .ok (.iconst 0, 1) := by decide +kernel
theorem dX7_clearsIfEncoded_22 : decode cX7_clearsIfEncoded 22 = .ok (.ireturn, 1) := by decide +kernel
theorem dX7_encodedCount_0 : decode cX7_encodedCount 0 = .ok (.aload_n 0, 1) := by decide +kernel
theorem dX7_encodedCount_1 : decode cX7_encodedCount 1 = .ok (.getfield 16, 3) := by decide +kernel
theorem dX7_encodedCount_4 : decode cX7_encodedCount 4 = .ok (.getfield 133, 3) := by decide +kernel
theorem dX7_encodedCount_7 : decode cX7_encodedCount 7 = .ok (.ireturn, 1) := by decide +kernel
set_option maxRecDepth 20000 in
theorem ggX7_encodedSymbol_X7_requireIndex : GoodIn wsX7_encodedSymbol wsX7_requireIndex := goodIn_ca (goodIn_r _ [5, 6, 7] (by decide +kernel) (by decide +kernel)) (goodIn_sub (fun _ h => List.mem_cons_of_mem _ (List.mem_append_right _ h)) (by decide +kernel))
set_option maxRecDepth 20000 in
theorem gX7_encodedSymbol_X7_requireIndex : GoodIn wsX7_encodedSymbol (va_wsS RX7 241 yX7_requireIndex wsX7_requireIndex) := goodIn_app (goodIn_of _ (by decide +kernel)) ggX7_encodedSymbol_X7_requireIndex
set_option maxRecDepth 20000 in
theorem ggX7_encodedSymbol_X7_at : GoodIn wsX7_encodedSymbol wsX7_at := goodIn_r _ [10] (by decide +kernel) (by decide +kernel)
set_option maxRecDepth 20000 in
theorem gX7_encodedSymbol_X7_at : GoodIn wsX7_encodedSymbol (va_wsS RX7 119 yX7_at wsX7_at) := goodIn_app (goodIn_of _ (by decide +kernel)) ggX7_encodedSymbol_X7_at
theorem dX7_encodedSymbol_0 : decode cX7_encodedSymbol 0 = .ok (.iload_n 1, 1) := by decide +kernel
theorem dX7_encodedSymbol_1 : decode cX7_encodedSymbol 1 = .ok (.aload_n 0, 1) := by decide +kernel
theorem dX7_encodedSymbol_2 : decode cX7_encodedSymbol 2 = .ok (.getfield 16, 3) := by decide +kernel
theorem dX7_encodedSymbol_5 : decode cX7_encodedSymbol 5 = .ok (.getfield 133, 3) := by decide +kernel
theorem dX7_encodedSymbol_8 : decode cX7_encodedSymbol 8 = .ok (.invokestatic 241, 3) := by decide +kernel
theorem dX7_encodedSymbol_11 : decode cX7_encodedSymbol 11 = .ok (.aload_n 0, 1) := by decide +kernel
theorem dX7_encodedSymbol_12 : decode cX7_encodedSymbol 12 = .ok (.getfield 16, 3) := by decide +kernel
theorem dX7_encodedSymbol_15 : decode cX7_encodedSymbol 15 = .ok (.getfield 288, 3) := by decide +kernel
theorem dX7_encodedSymbol_18 : decode cX7_encodedSymbol 18 = .ok (.iload_n 1, 1) := by decide +kernel
theorem dX7_encodedSymbol_19 : decode cX7_encodedSymbol 19 = .ok (.invokestatic 119, 3) := by decide +kernel
theorem dX7_encodedSymbol_22 : decode cX7_encodedSymbol 22 = .ok (.ireturn, 1) := by decide +kernel
theorem dX7_writtenCount_0 : decode cX7_writtenCount 0 = .ok (.aload_n 0, 1) := by decide +kernel
theorem dX7_writtenCount_1 : decode cX7_writtenCount 1 = .ok (.getfield 16, 3) := by decide +kernel
theorem dX7_writtenCount_4 : decode cX7_writtenCount 4 = .ok (.getfield 175, 3) := by decide +kernel
theorem dX7_writtenCount_7 : decode cX7_writtenCount 7 = .ok (.ireturn, 1) := by decide +kernel
set_option maxRecDepth 20000 in
theorem ggX7_writtenCode_X7_requireIndex : GoodIn wsX7_writtenCode wsX7_requireIndex := goodIn_ca (goodIn_r _ [5, 6, 7] (by decide +kernel) (by decide +kernel)) (goodIn_sub (fun _ h => List.mem_cons_of_mem _ (List.mem_append_right _ h)) (by decide +kernel))
set_option maxRecDepth 20000 in
theorem gX7_writtenCode_X7_requireIndex : GoodIn wsX7_writtenCode (va_wsS RX7 241 yX7_requireIndex wsX7_requireIndex) := goodIn_app (goodIn_of _ (by decide +kernel)) ggX7_writtenCode_X7_requireIndex
set_option maxRecDepth 20000 in
theorem ggX7_writtenCode_X7_at : GoodIn wsX7_writtenCode wsX7_at := goodIn_r _ [10] (by decide +kernel) (by decide +kernel)
set_option maxRecDepth 20000 in
theorem gX7_writtenCode_X7_at : GoodIn wsX7_writtenCode (va_wsS RX7 119 yX7_at wsX7_at) := goodIn_app (goodIn_of _ (by decide +kernel)) ggX7_writtenCode_X7_at
theorem dX7_writtenCode_0 : decode cX7_writtenCode 0 = .ok (.iload_n 1, 1) := by decide +kernel
theorem dX7_writtenCode_1 : decode cX7_writtenCode 1 = .ok (.aload_n 0, 1) := by decide +kernel
theorem dX7_writtenCode_2 : decode cX7_writtenCode 2 = .ok (.getfield 16, 3) := by decide +kernel
theorem dX7_writtenCode_5 : decode cX7_writtenCode 5 = .ok (.getfield 175, 3) := by decide +kernel
theorem dX7_writtenCode_8 : decode cX7_writtenCode 8 = .ok (.invokestatic 241, 3) := by decide +kernel
theorem dX7_writtenCode_11 : decode cX7_writtenCode 11 = .ok (.aload_n 0, 1) := by decide +kernel
theorem dX7_writtenCode_12 : decode cX7_writtenCode 12 = .ok (.getfield 16, 3) := by decide +kernel
theorem dX7_writtenCode_15 : decode cX7_writtenCode 15 = .ok (.getfield 291, 3) := by decide +kernel
theorem dX7_writtenCode_18 : decode cX7_writtenCode 18 = .ok (.iload_n 1, 1) := by decide +kernel
theorem dX7_writtenCode_19 : decode cX7_writtenCode 19 = .ok (.invokestatic 119, 3) := by decide +kernel
theorem dX7_writtenCode_22 : decode cX7_writtenCode 22 = .ok (.ireturn, 1) := by decide +kernel
set_option maxRecDepth 20000 in
theorem ggX7_writtenWidth_X7_requireIndex : GoodIn wsX7_writtenWidth wsX7_requireIndex := goodIn_ca (goodIn_r _ [5, 6, 7] (by decide +kernel) (by decide +kernel)) (goodIn_sub (fun _ h => List.mem_cons_of_mem _ (List.mem_append_right _ h)) (by decide +kernel))
set_option maxRecDepth 20000 in
theorem gX7_writtenWidth_X7_requireIndex : GoodIn wsX7_writtenWidth (va_wsS RX7 241 yX7_requireIndex wsX7_requireIndex) := goodIn_app (goodIn_of _ (by decide +kernel)) ggX7_writtenWidth_X7_requireIndex
set_option maxRecDepth 20000 in
theorem ggX7_writtenWidth_X7_at : GoodIn wsX7_writtenWidth wsX7_at := goodIn_r _ [10] (by decide +kernel) (by decide +kernel)
set_option maxRecDepth 20000 in
theorem gX7_writtenWidth_X7_at : GoodIn wsX7_writtenWidth (va_wsS RX7 119 yX7_at wsX7_at) := goodIn_app (goodIn_of _ (by decide +kernel)) ggX7_writtenWidth_X7_at
theorem dX7_writtenWidth_0 : decode cX7_writtenWidth 0 = .ok (.iload_n 1, 1) := by decide +kernel
theorem dX7_writtenWidth_1 : decode cX7_writtenWidth 1 = .ok (.aload_n 0, 1) := by decide +kernel
theorem dX7_writtenWidth_2 : decode cX7_writtenWidth 2 = .ok (.getfield 16, 3) := by decide +kernel
theorem dX7_writtenWidth_5 : decode cX7_writtenWidth 5 = .ok (.getfield 175, 3) := by decide +kernel
theorem dX7_writtenWidth_8 : decode cX7_writtenWidth 8 = .ok (.invokestatic 241, 3) := by decide +kernel
theorem dX7_writtenWidth_11 : decode cX7_writtenWidth 11 = .ok (.aload_n 0, 1) := by decide +kernel
theorem dX7_writtenWidth_12 : decode cX7_writtenWidth 12 = .ok (.getfield 16, 3) := by decide +kernel
theorem dX7_writtenWidth_15 : decode cX7_writtenWidth 15 = .ok (.getfield 294, 3) := by decide +kernel
theorem dX7_writtenWidth_18 : decode cX7_writtenWidth 18 = .ok (.iload_n 1, 1) := by decide +kernel
theorem dX7_writtenWidth_19 : decode cX7_writtenWidth 19 = .ok (.invokestatic 119, 3) := by decide +kernel
theorem dX7_writtenWidth_22 : decode cX7_writtenWidth 22 = .ok (.ireturn, 1) := by decide +kernel
theorem dX7_bitCount_0 : decode cX7_bitCount 0 = .ok (.aload_n 0, 1) := by decide +kernel
theorem dX7_bitCount_1 : decode cX7_bitCount 1 = .ok (.getfield 16, 3) := by decide +kernel
theorem dX7_bitCount_4 : decode cX7_bitCount 4 = .ok (.getfield 297, 3) := by decide +kernel
theorem dX7_bitCount_7 : decode cX7_bitCount 7 = .ok (.ireturn, 1) := by decide +kernel
set_option maxRecDepth 20000 in
theorem ggX7_bitAt_X7_requireIndex : GoodIn wsX7_bitAt wsX7_requireIndex := goodIn_ca (goodIn_r _ [5, 6, 7] (by decide +kernel) (by decide +kernel)) (goodIn_sub (fun _ h => List.mem_cons_of_mem _ (List.mem_append_right _ h)) (by decide +kernel))
set_option maxRecDepth 20000 in
theorem gX7_bitAt_X7_requireIndex : GoodIn wsX7_bitAt (va_wsS RX7 241 yX7_requireIndex wsX7_requireIndex) := goodIn_app (goodIn_of _ (by decide +kernel)) ggX7_bitAt_X7_requireIndex
set_option maxRecDepth 20000 in
theorem ggX7_bitAt_X2_bitsFrom : GoodIn wsX7_bitAt wsX2_bitsFrom := goodIn_r _ [12, 13, 14, 15, 16, 17, 18, 19, 20, 4, 21, 33, 34, 35, 36, 37, 38, 39, 40, 41, 42, 43, 44, 45, 46] (by decide +kernel) (by decide +kernel)
set_option maxRecDepth 20000 in
theorem gX7_bitAt_X2_bitsFrom : GoodIn wsX7_bitAt (wsV RX7 300 RX2 yX2_bitsFrom wsX2_bitsFrom) := goodIn_app (goodIn_of _ (by decide +kernel)) ggX7_bitAt_X2_bitsFrom
theorem dX7_bitAt_0 : decode cX7_bitAt 0 = .ok (.iload_n 1, 1) := by decide +kernel
theorem dX7_bitAt_1 : decode cX7_bitAt 1 = .ok (.aload_n 0, 1) := by decide +kernel
theorem dX7_bitAt_2 : decode cX7_bitAt 2 = .ok (.getfield 16, 3) := by decide +kernel
theorem dX7_bitAt_5 : decode cX7_bitAt 5 = .ok (.getfield 297, 3) := by decide +kernel
theorem dX7_bitAt_8 : decode cX7_bitAt 8 = .ok (.invokestatic 241, 3) := by decide +kernel
theorem dX7_bitAt_11 : decode cX7_bitAt 11 = .ok (.aload_n 0, 1) := by decide +kernel
theorem dX7_bitAt_12 : decode cX7_bitAt 12 = .ok (.getfield 16, 3) := by decide +kernel
theorem dX7_bitAt_15 : decode cX7_bitAt 15 = .ok (.iload_n 1, 1) := by decide +kernel
theorem dX7_bitAt_16 : decode cX7_bitAt 16 = .ok (.iconst 1, 1) := by decide +kernel
theorem dX7_bitAt_17 : decode cX7_bitAt 17 = .ok (.invokevirtual 300, 3) := by decide +kernel
theorem dX7_bitAt_20 : decode cX7_bitAt 20 = .ok (.ireturn, 1) := by decide +kernel
theorem dX7_byteCount_0 : decode cX7_byteCount 0 = .ok (.aload_n 0, 1) := by decide +kernel
theorem dX7_byteCount_1 : decode cX7_byteCount 1 = .ok (.getfield 16, 3) := by decide +kernel
theorem dX7_byteCount_4 : decode cX7_byteCount 4 = .ok (.getfield 297, 3) := by decide +kernel
theorem dX7_byteCount_7 : decode cX7_byteCount 7 = .ok (.bipush 7, 2) := by decide +kernel
theorem dX7_byteCount_9 : decode cX7_byteCount 9 = .ok (.iadd, 1) := by decide +kernel
theorem dX7_byteCount_10 : decode cX7_byteCount 10 = .ok (.bipush 8, 2) := by decide +kernel
theorem dX7_byteCount_12 : decode cX7_byteCount 12 = .ok (.idiv, 1) := by decide +kernel
theorem dX7_byteCount_13 : decode cX7_byteCount 13 = .ok (.ireturn, 1) := by decide +kernel
set_option maxRecDepth 20000 in
theorem ggX7_byteAt_X7_byteCount : GoodIn wsX7_byteAt wsX7_byteCount := goodIn_r _ [6, 1, 26, 27, 28, 29, 30, 31, 32, 33, 34, 35, 36, 37, 38, 39, 40, 41, 42, 43, 44, 45, 46, 47, 48, 49, 50] (by decide +kernel) (by decide +kernel)
set_option maxRecDepth 20000 in
theorem gX7_byteAt_X7_byteCount : GoodIn wsX7_byteAt (wsV RX7 303 RX7 yX7_byteCount wsX7_byteCount) := goodIn_app (goodIn_of _ (by decide +kernel)) ggX7_byteAt_X7_byteCount
set_option maxRecDepth 20000 in
theorem ggX7_byteAt_X7_requireIndex : GoodIn wsX7_byteAt wsX7_requireIndex := goodIn_ca (goodIn_r _ [9, 10, 11] (by decide +kernel) (by decide +kernel)) (goodIn_sub (fun _ h => List.mem_cons_of_mem _ (List.mem_append_right _ h)) (by decide +kernel))
set_option maxRecDepth 20000 in
theorem gX7_byteAt_X7_requireIndex : GoodIn wsX7_byteAt (va_wsS RX7 241 yX7_requireIndex wsX7_requireIndex) := goodIn_app (goodIn_of _ (by decide +kernel)) ggX7_byteAt_X7_requireIndex
set_option maxRecDepth 20000 in
theorem ggX7_byteAt_X2_bitsFrom : GoodIn wsX7_byteAt wsX2_bitsFrom := goodIn_r _ [16, 17, 18, 19, 20, 21, 22, 23, 24, 5, 25, 37, 38, 39, 40, 41, 42, 43, 44, 45, 46, 47, 48, 49, 50] (by decide +kernel) (by decide +kernel)
set_option maxRecDepth 20000 in
theorem gX7_byteAt_X2_bitsFrom : GoodIn wsX7_byteAt (wsV RX7 300 RX2 yX2_bitsFrom wsX2_bitsFrom) := goodIn_app (goodIn_of _ (by decide +kernel)) ggX7_byteAt_X2_bitsFrom
theorem dX7_byteAt_0 : decode cX7_byteAt 0 = .ok (.iload_n 1, 1) := by decide +kernel
theorem dX7_byteAt_1 : decode cX7_byteAt 1 = .ok (.aload_n 0, 1) := by decide +kernel
theorem dX7_byteAt_2 : decode cX7_byteAt 2 = .ok (.invokevirtual 303, 3) := by decide +kernel
theorem dX7_byteAt_5 : decode cX7_byteAt 5 = .ok (.invokestatic 241, 3) := by decide +kernel
theorem dX7_byteAt_8 : decode cX7_byteAt 8 = .ok (.aload_n 0, 1) := by decide +kernel
theorem dX7_byteAt_9 : decode cX7_byteAt 9 = .ok (.getfield 16, 3) := by decide +kernel
theorem dX7_byteAt_12 : decode cX7_byteAt 12 = .ok (.bipush 8, 2) := by decide +kernel
theorem dX7_byteAt_14 : decode cX7_byteAt 14 = .ok (.iload_n 1, 1) := by decide +kernel
theorem dX7_byteAt_15 : decode cX7_byteAt 15 = .ok (.imul, 1) := by decide +kernel
theorem dX7_byteAt_16 : decode cX7_byteAt 16 = .ok (.bipush 8, 2) := by decide +kernel
theorem dX7_byteAt_18 : decode cX7_byteAt 18 = .ok (.invokevirtual 300, 3) := by decide +kernel
theorem dX7_byteAt_21 : decode cX7_byteAt 21 = .ok (.ireturn, 1) := by decide +kernel
theorem dX7_clearCount_0 : decode cX7_clearCount 0 = .ok (.aload_n 0, 1) := by decide +kernel
theorem dX7_clearCount_1 : decode cX7_clearCount 1 = .ok (.getfield 16, 3) := by decide +kernel
theorem dX7_clearCount_4 : decode cX7_clearCount 4 = .ok (.getfield 306, 3) := by decide +kernel
theorem dX7_clearCount_7 : decode cX7_clearCount 7 = .ok (.ireturn, 1) := by decide +kernel
theorem dX7_codesSinceClear_0 : decode cX7_codesSinceClear 0 = .ok (.aload_n 0, 1) := by decide +kernel
theorem dX7_codesSinceClear_1 : decode cX7_codesSinceClear 1 = .ok (.getfield 16, 3) := by decide +kernel
theorem dX7_codesSinceClear_4 : decode cX7_codesSinceClear 4 = .ok (.getfield 309, 3) := by decide +kernel
theorem dX7_codesSinceClear_7 : decode cX7_codesSinceClear 7 = .ok (.ireturn, 1) := by decide +kernel
theorem dX7_symbolsSinceClear_0 : decode cX7_symbolsSinceClear 0 = .ok (.aload_n 0, 1) := by decide +kernel
theorem dX7_symbolsSinceClear_1 : decode cX7_symbolsSinceClear 1 = .ok (.getfield 16, 3) := by decide +kernel
theorem dX7_symbolsSinceClear_4 : decode cX7_symbolsSinceClear 4 = .ok (.getfield 312, 3) := by decide +kernel
theorem dX7_symbolsSinceClear_7 : decode cX7_symbolsSinceClear 7 = .ok (.ireturn, 1) := by decide +kernel
theorem dX7_bitsSinceClear_0 : decode cX7_bitsSinceClear 0 = .ok (.aload_n 0, 1) := by decide +kernel
theorem dX7_bitsSinceClear_1 : decode cX7_bitsSinceClear 1 = .ok (.getfield 16, 3) := by decide +kernel
theorem dX7_bitsSinceClear_4 : decode cX7_bitsSinceClear 4 = .ok (.getfield 315, 3) := by decide +kernel
theorem dX7_bitsSinceClear_7 : decode cX7_bitsSinceClear 7 = .ok (.ireturn, 1) := by decide +kernel
set_option maxRecDepth 20000 in
theorem ggX7_percentSinceClear_X2_percent : GoodIn wsX7_percentSinceClear wsX2_percent := goodIn_r _ [6, 7, 8, 9, 10, 11, 12, 13, 14, 15, 16, 28, 29, 30, 31, 32, 33, 34, 35, 36, 37, 38, 39, 40, 41, 42, 43, 44, 45, 46, 47, 48, 49] (by decide +kernel) (by decide +kernel)
set_option maxRecDepth 20000 in
theorem gX7_percentSinceClear_X2_percent : GoodIn wsX7_percentSinceClear (wsV RX7 318 RX2 yX2_percent wsX2_percent) := goodIn_app (goodIn_of _ (by decide +kernel)) ggX7_percentSinceClear_X2_percent
theorem dX7_percentSinceClear_0 : decode cX7_percentSinceClear 0 = .ok (.aload_n 0, 1) := by decide +kernel
theorem dX7_percentSinceClear_1 : decode cX7_percentSinceClear 1 = .ok (.getfield 16, 3) := by decide +kernel
theorem dX7_percentSinceClear_4 : decode cX7_percentSinceClear 4 = .ok (.aload_n 0, 1) := by decide +kernel
theorem dX7_percentSinceClear_5 : decode cX7_percentSinceClear 5 = .ok (.getfield 16, 3) := by decide +kernel
theorem dX7_percentSinceClear_8 : decode cX7_percentSinceClear 8 = .ok (.getfield 315, 3) := by decide +kernel
theorem dX7_percentSinceClear_11 : decode cX7_percentSinceClear 11 = .ok (.aload_n 0, 1) := by decide +kernel
theorem dX7_percentSinceClear_12 : decode cX7_percentSinceClear 12 = .ok (.getfield 16, 3) := by decide +kernel
theorem dX7_percentSinceClear_15 : decode cX7_percentSinceClear 15 = .ok (.getfield 312, 3) := by decide +kernel
theorem dX7_percentSinceClear_18 : decode cX7_percentSinceClear 18 = .ok (.invokevirtual 318, 3) := by decide +kernel
theorem dX7_percentSinceClear_21 : decode cX7_percentSinceClear 21 = .ok (.ireturn, 1) := by decide +kernel
set_option maxRecDepth 20000 in
theorem ggX7_savedBits_X2_covered : GoodIn wsX7_savedBits wsX2_covered := goodIn_r _ [6, 7, 8, 9, 10, 11, 12, 13, 14, 15, 16, 17, 18, 37, 38, 39, 40, 41, 42, 43, 44, 45, 46, 47, 48, 49, 50, 51, 52, 53, 54, 55, 56, 57, 58] (by decide +kernel) (by decide +kernel)
set_option maxRecDepth 20000 in
theorem gX7_savedBits_X2_covered : GoodIn wsX7_savedBits (wsV RX7 321 RX2 yX2_covered wsX2_covered) := goodIn_app (goodIn_of _ (by decide +kernel)) ggX7_savedBits_X2_covered
set_option maxRecDepth 20000 in
theorem ggX7_savedBits_X1_widthOfSymbols : GoodIn wsX7_savedBits wsX1_widthOfSymbols := goodIn_r _ [22, 23, 24, 17, 25, 51, 52, 53, 54, 55, 56, 57, 58] (by decide +kernel) (by decide +kernel)
set_option maxRecDepth 20000 in
theorem gX7_savedBits_X1_widthOfSymbols : GoodIn wsX7_savedBits (wsV RX7 221 RX1 yX1_widthOfSymbols wsX1_widthOfSymbols) := goodIn_app (goodIn_of _ (by decide +kernel)) ggX7_savedBits_X1_widthOfSymbols
theorem dX7_savedBits_0 : decode cX7_savedBits 0 = .ok (.aload_n 0, 1) := by decide +kernel
theorem dX7_savedBits_1 : decode cX7_savedBits 1 = .ok (.getfield 16, 3) := by decide +kernel
theorem dX7_savedBits_4 : decode cX7_savedBits 4 = .ok (.invokevirtual 321, 3) := by decide +kernel
theorem dX7_savedBits_7 : decode cX7_savedBits 7 = .ok (.aload_n 0, 1) := by decide +kernel
theorem dX7_savedBits_8 : decode cX7_savedBits 8 = .ok (.getfield 16, 3) := by decide +kernel
theorem dX7_savedBits_11 : decode cX7_savedBits 11 = .ok (.getfield 136, 3) := by decide +kernel
theorem dX7_savedBits_14 : decode cX7_savedBits 14 = .ok (.invokevirtual 221, 3) := by decide +kernel
theorem dX7_savedBits_17 : decode cX7_savedBits 17 = .ok (.imul, 1) := by decide +kernel
theorem dX7_savedBits_18 : decode cX7_savedBits 18 = .ok (.aload_n 0, 1) := by decide +kernel
theorem dX7_savedBits_19 : decode cX7_savedBits 19 = .ok (.getfield 16, 3) := by decide +kernel
theorem dX7_savedBits_22 : decode cX7_savedBits 22 = .ok (.getfield 297, 3) := by decide +kernel
theorem dX7_savedBits_25 : decode cX7_savedBits 25 = .ok (.isub, 1) := by decide +kernel
theorem dX7_savedBits_26 : decode cX7_savedBits 26 = .ok (.ireturn, 1) := by decide +kernel
set_option maxRecDepth 20000 in
theorem ggX7_bitsPerSymbol_X2_covered : GoodIn wsX7_bitsPerSymbol wsX2_covered := goodIn_r _ [6, 7, 8, 9, 10, 11, 12, 13, 14, 15, 16, 17, 18, 30, 31, 32, 33, 34, 35, 36, 37, 38, 39, 40, 41, 42, 43, 44, 45, 46, 47, 48, 49, 50, 51] (by decide +kernel) (by decide +kernel)
set_option maxRecDepth 20000 in
theorem gX7_bitsPerSymbol_X2_covered : GoodIn wsX7_bitsPerSymbol (wsV RX7 321 RX2 yX2_covered wsX2_covered) := goodIn_app (goodIn_of _ (by decide +kernel)) ggX7_bitsPerSymbol_X2_covered
theorem dX7_bitsPerSymbol_0 : decode cX7_bitsPerSymbol 0 = .ok (.aload_n 0, 1) := by decide +kernel
theorem dX7_bitsPerSymbol_1 : decode cX7_bitsPerSymbol 1 = .ok (.getfield 16, 3) := by decide +kernel
theorem dX7_bitsPerSymbol_4 : decode cX7_bitsPerSymbol 4 = .ok (.invokevirtual 321, 3) := by decide +kernel
theorem dX7_bitsPerSymbol_7 : decode cX7_bitsPerSymbol 7 = .ok (.istore_n 1, 1) := by decide +kernel
theorem dX7_bitsPerSymbol_8 : decode cX7_bitsPerSymbol 8 = .ok (.iload_n 1, 1) := by decide +kernel
theorem dX7_bitsPerSymbol_9 : decode cX7_bitsPerSymbol 9 = .ok (.ifCond .gt 7, 3) := by decide +kernel
theorem dX7_bitsPerSymbol_12 : decode cX7_bitsPerSymbol 12 = .ok (.dconst 0, 1) := by decide +kernel
theorem dX7_bitsPerSymbol_13 : decode cX7_bitsPerSymbol 13 = .ok (.goto 14, 3) := by decide +kernel
theorem dX7_bitsPerSymbol_16 : decode cX7_bitsPerSymbol 16 = .ok (.aload_n 0, 1) := by decide +kernel
theorem dX7_bitsPerSymbol_17 : decode cX7_bitsPerSymbol 17 = .ok (.getfield 16, 3) := by decide +kernel
theorem dX7_bitsPerSymbol_20 : decode cX7_bitsPerSymbol 20 = .ok (.getfield 297, 3) := by decide +kernel
theorem dX7_bitsPerSymbol_23 : decode cX7_bitsPerSymbol 23 = .ok (.i2d, 1) := by decide +kernel
theorem dX7_bitsPerSymbol_24 : decode cX7_bitsPerSymbol 24 = .ok (.iload_n 1, 1) := by decide +kernel
theorem dX7_bitsPerSymbol_25 : decode cX7_bitsPerSymbol 25 = .ok (.i2d, 1) := by decide +kernel
theorem dX7_bitsPerSymbol_26 : decode cX7_bitsPerSymbol 26 = .ok (.ddiv, 1) := by decide +kernel
theorem dX7_bitsPerSymbol_27 : decode cX7_bitsPerSymbol 27 = .ok (.dreturn, 1) := by decide +kernel
set_option maxRecDepth 20000 in
theorem ggX7_fillShare_X1_room : GoodIn wsX7_fillShare wsX1_room := goodIn_r _ [6, 7, 33, 34, 35, 36, 37, 38, 39, 40] (by decide +kernel) (by decide +kernel)
set_option maxRecDepth 20000 in
theorem gX7_fillShare_X1_room : GoodIn wsX7_fillShare (wsV RX7 225 RX1 yX1_room wsX1_room) := goodIn_app (goodIn_of _ (by decide +kernel)) ggX7_fillShare_X1_room
theorem dX7_fillShare_0 : decode cX7_fillShare 0 = .ok (.aload_n 0, 1) := by decide +kernel
theorem dX7_fillShare_1 : decode cX7_fillShare 1 = .ok (.getfield 16, 3) := by decide +kernel
theorem dX7_fillShare_4 : decode cX7_fillShare 4 = .ok (.getfield 136, 3) := by decide +kernel
theorem dX7_fillShare_7 : decode cX7_fillShare 7 = .ok (.invokevirtual 225, 3) := by decide +kernel
theorem dX7_fillShare_10 : decode cX7_fillShare 10 = .ok (.istore_n 1, 1) := by decide +kernel
theorem dX7_fillShare_11 : decode cX7_fillShare 11 = .ok (.iload_n 1, 1) := by decide +kernel
theorem dX7_fillShare_12 : decode cX7_fillShare 12 = .ok (.ifCond .gt 7, 3) := by decide +kernel
theorem dX7_fillShare_15 : decode cX7_fillShare 15 = .ok (.fconst 0, 1) := by decide +kernel
theorem dX7_fillShare_16 : decode cX7_fillShare 16 = .ok (.goto 17, 3) := by decide +kernel
theorem dX7_fillShare_19 : decode cX7_fillShare 19 = .ok (.aload_n 0, 1) := by decide +kernel
theorem dX7_fillShare_20 : decode cX7_fillShare 20 = .ok (.getfield 16, 3) := by decide +kernel
theorem dX7_fillShare_23 : decode cX7_fillShare 23 = .ok (.getfield 136, 3) := by decide +kernel
theorem dX7_fillShare_26 : decode cX7_fillShare 26 = .ok (.getfield 224, 3) := by decide +kernel
theorem dX7_fillShare_29 : decode cX7_fillShare 29 = .ok (.i2f, 1) := by decide +kernel
theorem dX7_fillShare_30 : decode cX7_fillShare 30 = .ok (.iload_n 1, 1) := by decide +kernel
theorem dX7_fillShare_31 : decode cX7_fillShare 31 = .ok (.i2f, 1) := by decide +kernel
theorem dX7_fillShare_32 : decode cX7_fillShare 32 = .ok (.fdiv, 1) := by decide +kernel
theorem dX7_fillShare_33 : decode cX7_fillShare 33 = .ok (.freturn, 1) := by decide +kernel
theorem dX7_decodedCount_0 : decode cX7_decodedCount 0 = .ok (.aload_n 0, 1) := by decide +kernel
theorem dX7_decodedCount_1 : decode cX7_decodedCount 1 = .ok (.getfield 130, 3) := by decide +kernel
theorem dX7_decodedCount_4 : decode cX7_decodedCount 4 = .ok (.ireturn, 1) := by decide +kernel
set_option maxRecDepth 20000 in
theorem ggX7_decodedSymbol_X7_requireIndex : GoodIn wsX7_decodedSymbol wsX7_requireIndex := goodIn_ca (goodIn_r _ [6, 7, 8] (by decide +kernel) (by decide +kernel)) (goodIn_sub (fun _ h => List.mem_cons_of_mem _ (List.mem_append_right _ h)) (by decide +kernel))
set_option maxRecDepth 20000 in
theorem gX7_decodedSymbol_X7_requireIndex : GoodIn wsX7_decodedSymbol (va_wsS RX7 241 yX7_requireIndex wsX7_requireIndex) := goodIn_app (goodIn_of _ (by decide +kernel)) ggX7_decodedSymbol_X7_requireIndex
set_option maxRecDepth 20000 in
theorem ggX7_decodedSymbol_X7_at : GoodIn wsX7_decodedSymbol wsX7_at := goodIn_r _ [11] (by decide +kernel) (by decide +kernel)
set_option maxRecDepth 20000 in
theorem gX7_decodedSymbol_X7_at : GoodIn wsX7_decodedSymbol (va_wsS RX7 119 yX7_at wsX7_at) := goodIn_app (goodIn_of _ (by decide +kernel)) ggX7_decodedSymbol_X7_at
theorem dX7_decodedSymbol_0 : decode cX7_decodedSymbol 0 = .ok (.iload_n 1, 1) := by decide +kernel
theorem dX7_decodedSymbol_1 : decode cX7_decodedSymbol 1 = .ok (.aload_n 0, 1) := by decide +kernel
theorem dX7_decodedSymbol_2 : decode cX7_decodedSymbol 2 = .ok (.getfield 130, 3) := by decide +kernel
theorem dX7_decodedSymbol_5 : decode cX7_decodedSymbol 5 = .ok (.invokestatic 241, 3) := by decide +kernel
theorem dX7_decodedSymbol_8 : decode cX7_decodedSymbol 8 = .ok (.aload_n 0, 1) := by decide +kernel
theorem dX7_decodedSymbol_9 : decode cX7_decodedSymbol 9 = .ok (.getfield 27, 3) := by decide +kernel
theorem dX7_decodedSymbol_12 : decode cX7_decodedSymbol 12 = .ok (.iload_n 1, 1) := by decide +kernel
theorem dX7_decodedSymbol_13 : decode cX7_decodedSymbol 13 = .ok (.invokestatic 119, 3) := by decide +kernel
theorem dX7_decodedSymbol_16 : decode cX7_decodedSymbol 16 = .ok (.ireturn, 1) := by decide +kernel
set_option maxRecDepth 20000 in
theorem ggX7_longestDecodedRun_X7_at : GoodIn wsX7_longestDecodedRun wsX7_at := goodIn_r _ [10] (by decide +kernel) (by decide +kernel)
set_option maxRecDepth 20000 in
theorem gX7_longestDecodedRun_X7_at : GoodIn wsX7_longestDecodedRun (va_wsS RX7 119 yX7_at wsX7_at) := goodIn_app (goodIn_of _ (by decide +kernel)) ggX7_longestDecodedRun_X7_at
theorem dX7_longestDecodedRun_0 : decode cX7_longestDecodedRun 0 = .ok (.iconst 0, 1) := by decide +kernel
theorem dX7_longestDecodedRun_1 : decode cX7_longestDecodedRun 1 = .ok (.istore_n 1, 1) := by decide +kernel
theorem dX7_longestDecodedRun_2 : decode cX7_longestDecodedRun 2 = .ok (.iconst 0, 1) := by decide +kernel
theorem dX7_longestDecodedRun_3 : decode cX7_longestDecodedRun 3 = .ok (.istore_n 2, 1) := by decide +kernel
theorem dX7_longestDecodedRun_4 : decode cX7_longestDecodedRun 4 = .ok (.iconst 0, 1) := by decide +kernel
theorem dX7_longestDecodedRun_5 : decode cX7_longestDecodedRun 5 = .ok (.istore_n 3, 1) := by decide +kernel
theorem dX7_longestDecodedRun_6 : decode cX7_longestDecodedRun 6 = .ok (.iload_n 3, 1) := by decide +kernel
theorem dX7_longestDecodedRun_7 : decode cX7_longestDecodedRun 7 = .ok (.aload_n 0, 1) := by decide +kernel
theorem dX7_longestDecodedRun_8 : decode cX7_longestDecodedRun 8 = .ok (.getfield 130, 3) := by decide +kernel
theorem dX7_longestDecodedRun_11 : decode cX7_longestDecodedRun 11 = .ok (.if_icmp .ge 60, 3) := by decide +kernel
theorem dX7_longestDecodedRun_14 : decode cX7_longestDecodedRun 14 = .ok (.iload_n 3, 1) := by decide +kernel
theorem dX7_longestDecodedRun_15 : decode cX7_longestDecodedRun 15 = .ok (.ifCond .le 28, 3) := by decide +kernel
theorem dX7_longestDecodedRun_18 : decode cX7_longestDecodedRun 18 = .ok (.aload_n 0, 1) := by decide +kernel
theorem dX7_longestDecodedRun_19 : decode cX7_longestDecodedRun 19 = .ok (.getfield 27, 3) := by decide +kernel
theorem dX7_longestDecodedRun_22 : decode cX7_longestDecodedRun 22 = .ok (.iload_n 3, 1) := by decide +kernel
theorem dX7_longestDecodedRun_23 : decode cX7_longestDecodedRun 23 = .ok (.invokestatic 119, 3) := by decide +kernel
theorem dX7_longestDecodedRun_26 : decode cX7_longestDecodedRun 26 = .ok (.aload_n 0, 1) := by decide +kernel
theorem dX7_longestDecodedRun_27 : decode cX7_longestDecodedRun 27 = .ok (.getfield 27, 3) := by decide +kernel
theorem dX7_longestDecodedRun_30 : decode cX7_longestDecodedRun 30 = .ok (.iload_n 3, 1) := by decide +kernel
theorem dX7_longestDecodedRun_31 : decode cX7_longestDecodedRun 31 = .ok (.iconst 1, 1) := by decide +kernel
theorem dX7_longestDecodedRun_32 : decode cX7_longestDecodedRun 32 = .ok (.isub, 1) := by decide +kernel
theorem dX7_longestDecodedRun_33 : decode cX7_longestDecodedRun 33 = .ok (.invokestatic 119, 3) := by decide +kernel
theorem dX7_longestDecodedRun_36 : decode cX7_longestDecodedRun 36 = .ok (.if_icmp .ne 7, 3) := by decide +kernel
theorem dX7_longestDecodedRun_39 : decode cX7_longestDecodedRun 39 = .ok (.iconst 1, 1) := by decide +kernel
theorem dX7_longestDecodedRun_40 : decode cX7_longestDecodedRun 40 = .ok (.goto 4, 3) := by decide +kernel
theorem dX7_longestDecodedRun_43 : decode cX7_longestDecodedRun 43 = .ok (.iconst 0, 1) := by decide +kernel
theorem dX7_longestDecodedRun_44 : decode cX7_longestDecodedRun 44 = .ok (.istore 4, 2) := by decide +kernel
theorem dX7_longestDecodedRun_46 : decode cX7_longestDecodedRun 46 = .ok (.iload 4, 2) := by decide +kernel
theorem dX7_longestDecodedRun_48 : decode cX7_longestDecodedRun 48 = .ok (.ifCond .eq 9, 3) := by decide +kernel
theorem dX7_longestDecodedRun_51 : decode cX7_longestDecodedRun 51 = .ok (.iload_n 2, 1) := by decide +kernel
theorem dX7_longestDecodedRun_52 : decode cX7_longestDecodedRun 52 = .ok (.iconst 1, 1) := by decide +kernel
theorem dX7_longestDecodedRun_53 : decode cX7_longestDecodedRun 53 = .ok (.iadd, 1) := by decide +kernel
theorem dX7_longestDecodedRun_54 : decode cX7_longestDecodedRun 54 = .ok (.goto 4, 3) := by decide +kernel
theorem dX7_longestDecodedRun_57 : decode cX7_longestDecodedRun 57 = .ok (.iconst 1, 1) := by decide +kernel
theorem dX7_longestDecodedRun_58 : decode cX7_longestDecodedRun 58 = .ok (.istore_n 2, 1) := by decide +kernel
theorem dX7_longestDecodedRun_59 : decode cX7_longestDecodedRun 59 = .ok (.iload_n 1, 1) := by decide +kernel
theorem dX7_longestDecodedRun_60 : decode cX7_longestDecodedRun 60 = .ok (.iload_n 2, 1) := by decide +kernel
theorem dX7_longestDecodedRun_61 : decode cX7_longestDecodedRun 61 = .ok (.invokestatic 324, 3) := by decide +kernel
theorem dX7_longestDecodedRun_64 : decode cX7_longestDecodedRun 64 = .ok (.istore_n 1, 1) := by decide +kernel
theorem dX7_longestDecodedRun_65 : decode cX7_longestDecodedRun 65 = .ok (.iinc 3 1, 3) := by decide +kernel
theorem dX7_longestDecodedRun_68 : decode cX7_longestDecodedRun 68 = .ok (.goto (-62), 3) := by decide +kernel
theorem dX7_longestDecodedRun_71 : decode cX7_longestDecodedRun 71 = .ok (.iload_n 1, 1) := by decide +kernel
theorem dX7_longestDecodedRun_72 : decode cX7_longestDecodedRun 72 = .ok (.ireturn, 1) := by decide +kernel
set_option maxRecDepth 20000 in
theorem ggX7_restoredCount_X0_begin : GoodIn wsX7_restoredCount wsX0_begin := goodIn_r _ [7, 8, 9, 10, 11, 12, 13, 14, 15, 16, 17, 18, 19, 20, 21, 22, 23, 24, 25, 26, 27, 28, 29, 30, 113, 114, 115, 116, 117, 118, 119, 120, 121, 122, 123, 124] (by decide +kernel) (by decide +kernel)
set_option maxRecDepth 20000 in
theorem gX7_restoredCount_X0_begin : GoodIn wsX7_restoredCount (wsV RX7 140 RX0 yX0_begin wsX0_begin) := goodIn_app (goodIn_of _ (by decide +kernel)) ggX7_restoredCount_X0_begin
set_option maxRecDepth 20000 in
theorem ggX7_restoredCount_X0_takeAll : GoodIn wsX7_restoredCount wsX0_takeAll := goodIn_r _ [34, 35, 36, 37, 38, 39, 40, 6, 41, 8, 9, 42, 19, 20, 14, 21, 16, 22, 23, 24, 25, 26, 27, 28, 29, 30, 43, 44, 45, 46, 47, 48, 49, 50, 10, 51, 52, 53, 54, 55, 56, 57, 58, 59, 60, 61, 62, 63, 64, 65, 66, 67, 68, 69, 70, 71, 72, 73, 74, 75, 76, 77, 17, 78, 79, 80, 81, 82, 83, 84, 85, 86, 87, 113, 114, 115, 116, 117, 118, 119, 120, 121, 122, 123, 124] (by decide +kernel) (by decide +kernel)
set_option maxRecDepth 20000 in
theorem gX7_restoredCount_X0_takeAll : GoodIn wsX7_restoredCount (wsV RX7 329 RX0 yX0_takeAll wsX0_takeAll) := goodIn_app (goodIn_of _ (by decide +kernel)) ggX7_restoredCount_X0_takeAll
theorem dX7_restoredCount_0 : decode cX7_restoredCount 0 = .ok (.aload_n 0, 1) := by decide +kernel
theorem dX7_restoredCount_1 : decode cX7_restoredCount 1 = .ok (.getfield 33, 3) := by decide +kernel
theorem dX7_restoredCount_4 : decode cX7_restoredCount 4 = .ok (.aload_n 0, 1) := by decide +kernel
theorem dX7_restoredCount_5 : decode cX7_restoredCount 5 = .ok (.getfield 16, 3) := by decide +kernel
theorem dX7_restoredCount_8 : decode cX7_restoredCount 8 = .ok (.getfield 136, 3) := by decide +kernel
theorem dX7_restoredCount_11 : decode cX7_restoredCount 11 = .ok (.invokevirtual 140, 3) := by decide +kernel
theorem dX7_restoredCount_14 : decode cX7_restoredCount 14 = .ok (.aload_n 0, 1) := by decide +kernel
theorem dX7_restoredCount_15 : decode cX7_restoredCount 15 = .ok (.getfield 33, 3) := by decide +kernel
theorem dX7_restoredCount_18 : decode cX7_restoredCount 18 = .ok (.aload_n 0, 1) := by decide +kernel
theorem dX7_restoredCount_19 : decode cX7_restoredCount 19 = .ok (.getfield 16, 3) := by decide +kernel
theorem dX7_restoredCount_22 : decode cX7_restoredCount 22 = .ok (.getfield 291, 3) := by decide +kernel
theorem dX7_restoredCount_25 : decode cX7_restoredCount 25 = .ok (.aload_n 0, 1) := by decide +kernel
theorem dX7_restoredCount_26 : decode cX7_restoredCount 26 = .ok (.getfield 16, 3) := by decide +kernel
theorem dX7_restoredCount_29 : decode cX7_restoredCount 29 = .ok (.getfield 175, 3) := by decide +kernel
theorem dX7_restoredCount_32 : decode cX7_restoredCount 32 = .ok (.invokevirtual 329, 3) := by decide +kernel
theorem dX7_restoredCount_35 : decode cX7_restoredCount 35 = .ok (.pop, 1) := by decide +kernel
theorem dX7_restoredCount_36 : decode cX7_restoredCount 36 = .ok (.aload_n 0, 1) := by decide +kernel
theorem dX7_restoredCount_37 : decode cX7_restoredCount 37 = .ok (.getfield 33, 3) := by decide +kernel
theorem dX7_restoredCount_40 : decode cX7_restoredCount 40 = .ok (.getfield 149, 3) := by decide +kernel
theorem dX7_restoredCount_43 : decode cX7_restoredCount 43 = .ok (.ireturn, 1) := by decide +kernel
set_option maxRecDepth 20000 in
theorem ggX7_isRestored_X0_begin : GoodIn wsX7_isRestored wsX0_begin := goodIn_r _ [7, 8, 9, 10, 11, 12, 13, 14, 15, 16, 17, 18, 19, 20, 21, 22, 23, 24, 25, 26, 27, 28, 29, 30, 123, 124, 125, 126, 127, 128, 129, 130, 131, 132, 133, 134] (by decide +kernel) (by decide +kernel)
set_option maxRecDepth 20000 in
theorem gX7_isRestored_X0_begin : GoodIn wsX7_isRestored (wsV RX7 140 RX0 yX0_begin wsX0_begin) := goodIn_app (goodIn_of _ (by decide +kernel)) ggX7_isRestored_X0_begin
set_option maxRecDepth 20000 in
theorem ggX7_isRestored_X0_takeAll : GoodIn wsX7_isRestored wsX0_takeAll := goodIn_r _ [34, 35, 36, 37, 38, 39, 40, 6, 41, 8, 9, 42, 19, 20, 14, 21, 16, 22, 23, 24, 25, 26, 27, 28, 29, 30, 43, 44, 45, 46, 47, 48, 49, 50, 10, 51, 52, 53, 54, 55, 56, 57, 58, 59, 60, 61, 62, 63, 64, 65, 66, 67, 68, 69, 70, 71, 72, 73, 74, 75, 76, 77, 17, 78, 79, 80, 81, 82, 83, 84, 85, 86, 87, 123, 124, 125, 126, 127, 128, 129, 130, 131, 132, 133, 134] (by decide +kernel) (by decide +kernel)
set_option maxRecDepth 20000 in
theorem gX7_isRestored_X0_takeAll : GoodIn wsX7_isRestored (wsV RX7 329 RX0 yX0_takeAll wsX0_takeAll) := goodIn_app (goodIn_of _ (by decide +kernel)) ggX7_isRestored_X0_takeAll
set_option maxRecDepth 20000 in
theorem ggX7_isRestored_X2_covered : GoodIn wsX7_isRestored wsX2_covered := goodIn_r _ [92, 93, 94, 95, 96, 53, 54, 14, 55, 29, 35, 36, 37, 109, 110, 111, 112, 113, 114, 115, 116, 117, 118, 119, 120, 121, 122, 127, 128, 129, 130, 131, 132, 133, 134] (by decide +kernel) (by decide +kernel)
set_option maxRecDepth 20000 in
theorem gX7_isRestored_X2_covered : GoodIn wsX7_isRestored (wsV RX7 321 RX2 yX2_covered wsX2_covered) := goodIn_app (goodIn_of _ (by decide +kernel)) ggX7_isRestored_X2_covered
set_option maxRecDepth 20000 in
theorem ggX7_isRestored_X7_at : GoodIn wsX7_isRestored wsX7_at := goodIn_r _ [37] (by decide +kernel) (by decide +kernel)
set_option maxRecDepth 20000 in
theorem gX7_isRestored_X7_at : GoodIn wsX7_isRestored (va_wsS RX7 119 yX7_at wsX7_at) := goodIn_app (goodIn_of _ (by decide +kernel)) ggX7_isRestored_X7_at
theorem dX7_isRestored_0 : decode cX7_isRestored 0 = .ok (.aload_n 0, 1) := by decide +kernel
theorem dX7_isRestored_1 : decode cX7_isRestored 1 = .ok (.getfield 33, 3) := by decide +kernel
theorem dX7_isRestored_4 : decode cX7_isRestored 4 = .ok (.aload_n 0, 1) := by decide +kernel
theorem dX7_isRestored_5 : decode cX7_isRestored 5 = .ok (.getfield 16, 3) := by decide +kernel
theorem dX7_isRestored_8 : decode cX7_isRestored 8 = .ok (.getfield 136, 3) := by decide +kernel
theorem dX7_isRestored_11 : decode cX7_isRestored 11 = .ok (.invokevirtual 140, 3) := by decide +kernel
theorem dX7_isRestored_14 : decode cX7_isRestored 14 = .ok (.aload_n 0, 1) := by decide +kernel
theorem dX7_isRestored_15 : decode cX7_isRestored 15 = .ok (.getfield 33, 3) := by decide +kernel
theorem dX7_isRestored_18 : decode cX7_isRestored 18 = .ok (.aload_n 0, 1) := by decide +kernel
theorem dX7_isRestored_19 : decode cX7_isRestored 19 = .ok (.getfield 16, 3) := by decide +kernel
theorem dX7_isRestored_22 : decode cX7_isRestored 22 = .ok (.getfield 291, 3) := by decide +kernel
theorem dX7_isRestored_25 : decode cX7_isRestored 25 = .ok (.aload_n 0, 1) := by decide +kernel
theorem dX7_isRestored_26 : decode cX7_isRestored 26 = .ok (.getfield 16, 3) := by decide +kernel
theorem dX7_isRestored_29 : decode cX7_isRestored 29 = .ok (.getfield 175, 3) := by decide +kernel
theorem dX7_isRestored_32 : decode cX7_isRestored 32 = .ok (.invokevirtual 329, 3) := by decide +kernel
theorem dX7_isRestored_35 : decode cX7_isRestored 35 = .ok (.ifCond .eq 20, 3) := by decide +kernel
theorem dX7_isRestored_38 : decode cX7_isRestored 38 = .ok (.aload_n 0, 1) := by decide +kernel
theorem dX7_isRestored_39 : decode cX7_isRestored 39 = .ok (.getfield 33, 3) := by decide +kernel
theorem dX7_isRestored_42 : decode cX7_isRestored 42 = .ok (.getfield 149, 3) := by decide +kernel
theorem dX7_isRestored_45 : decode cX7_isRestored 45 = .ok (.aload_n 0, 1) := by decide +kernel
theorem dX7_isRestored_46 : decode cX7_isRestored 46 = .ok (.getfield 16, 3) := by decide +kernel
theorem dX7_isRestored_49 : decode cX7_isRestored 49 = .ok (.invokevirtual 321, 3) := by decide +kernel
theorem dX7_isRestored_52 : decode cX7_isRestored 52 = .ok (.if_icmp .eq 5, 3) := by decide +kernel
theorem dX7_isRestored_55 : decode cX7_isRestored 55 = .ok (.iconst 0, 1) := by decide +kernel
theorem dX7_isRestored_56 : decode cX7_isRestored 56 = .ok (.ireturn, 1) := by decide +kernel
theorem dX7_isRestored_57 : decode cX7_isRestored 57 = .ok (.iconst 0, 1) := by decide +kernel
theorem dX7_isRestored_58 : decode cX7_isRestored 58 = .ok (.istore_n 1, 1) := by decide +kernel
theorem dX7_isRestored_59 : decode cX7_isRestored 59 = .ok (.iload_n 1, 1) := by decide +kernel
theorem dX7_isRestored_60 : decode cX7_isRestored 60 = .ok (.aload_n 0, 1) := by decide +kernel
theorem dX7_isRestored_61 : decode cX7_isRestored 61 = .ok (.getfield 33, 3) := by decide +kernel
theorem dX7_isRestored_64 : decode cX7_isRestored 64 = .ok (.getfield 149, 3) := by decide +kernel
theorem dX7_isRestored_67 : decode cX7_isRestored 67 = .ok (.if_icmp .ge 36, 3) := by decide +kernel
theorem dX7_isRestored_70 : decode cX7_isRestored 70 = .ok (.aload_n 0, 1) := by decide +kernel
theorem dX7_isRestored_71 : decode cX7_isRestored 71 = .ok (.getfield 33, 3) := by decide +kernel
theorem dX7_isRestored_74 : decode cX7_isRestored 74 = .ok (.getfield 148, 3) := by decide +kernel
theorem dX7_isRestored_77 : decode cX7_isRestored 77 = .ok (.iload_n 1, 1) := by decide +kernel
theorem dX7_isRestored_78 : decode cX7_isRestored 78 = .ok (.invokestatic 119, 3) := by decide +kernel
theorem dX7_isRestored_81 : decode cX7_isRestored 81 = .ok (.aload_n 0, 1) := by decide +kernel
theorem dX7_isRestored_82 : decode cX7_isRestored 82 = .ok (.getfield 16, 3) := by decide +kernel
theorem dX7_isRestored_85 : decode cX7_isRestored 85 = .ok (.getfield 288, 3) := by decide +kernel
theorem dX7_isRestored_88 : decode cX7_isRestored 88 = .ok (.iload_n 1, 1) := by decide +kernel
theorem dX7_isRestored_89 : decode cX7_isRestored 89 = .ok (.invokestatic 119, 3) := by decide +kernel
theorem dX7_isRestored_92 : decode cX7_isRestored 92 = .ok (.if_icmp .eq 5, 3) := by decide +kernel
theorem dX7_isRestored_95 : decode cX7_isRestored 95 = .ok (.iconst 0, 1) := by decide +kernel
theorem dX7_isRestored_96 : decode cX7_isRestored 96 = .ok (.ireturn, 1) := by decide +kernel
theorem dX7_isRestored_97 : decode cX7_isRestored 97 = .ok (.iinc 1 1, 3) := by decide +kernel
theorem dX7_isRestored_100 : decode cX7_isRestored 100 = .ok (.goto (-41), 3) := by decide +kernel
theorem dX7_isRestored_103 : decode cX7_isRestored 103 = .ok (.iconst 1, 1) := by decide +kernel
theorem dX7_isRestored_104 : decode cX7_isRestored 104 = .ok (.ireturn, 1) := by decide +kernel
set_option maxRecDepth 20000 in
theorem ggX7_setupLength_X5_describe : GoodIn wsX7_setupLength wsX5_describe := goodIn_r _ [7, 8, 9, 10, 11, 6, 12, 13, 14, 15, 16, 17, 18, 19, 20, 21, 22, 23, 24, 25, 26, 27, 28, 29, 30, 31, 32, 33, 34, 35, 36, 37, 38, 39, 40, 41, 42, 43, 44, 45, 46, 47, 48, 49, 50, 51, 52, 53, 54, 55, 56, 57, 58, 59, 60, 61, 62, 63, 64, 65, 66, 67, 68, 69, 70, 71, 72, 73, 74, 75, 76, 77, 78, 79, 80, 81, 93, 94, 95, 96, 97, 98, 99, 100, 101, 102, 103, 104, 105, 106, 107, 108, 109, 110, 111, 112, 113, 114, 115, 116] (by decide +kernel) (by decide +kernel)
set_option maxRecDepth 20000 in
theorem gX7_setupLength_X5_describe : GoodIn wsX7_setupLength (wsV RX7 333 RX5 yX5_describe wsX5_describe) := goodIn_app (goodIn_of _ (by decide +kernel)) ggX7_setupLength_X5_describe
theorem dX7_setupLength_0 : decode cX7_setupLength 0 = .ok (.aload_n 0, 1) := by decide +kernel
theorem dX7_setupLength_1 : decode cX7_setupLength 1 = .ok (.getfield 54, 3) := by decide +kernel
theorem dX7_setupLength_4 : decode cX7_setupLength 4 = .ok (.aload_n 0, 1) := by decide +kernel
theorem dX7_setupLength_5 : decode cX7_setupLength 5 = .ok (.getfield 16, 3) := by decide +kernel
theorem dX7_setupLength_8 : decode cX7_setupLength 8 = .ok (.invokevirtual 333, 3) := by decide +kernel
theorem dX7_setupLength_11 : decode cX7_setupLength 11 = .ok (.aload_n 0, 1) := by decide +kernel
theorem dX7_setupLength_12 : decode cX7_setupLength 12 = .ok (.getfield 54, 3) := by decide +kernel
theorem dX7_setupLength_15 : decode cX7_setupLength 15 = .ok (.getfield 336, 3) := by decide +kernel
theorem dX7_setupLength_18 : decode cX7_setupLength 18 = .ok (.ireturn, 1) := by decide +kernel
set_option maxRecDepth 20000 in
theorem ggX7_setupByte_X5_describe : GoodIn wsX7_setupByte wsX5_describe := goodIn_r _ [7, 8, 9, 10, 11, 6, 12, 13, 14, 15, 16, 17, 18, 19, 20, 21, 22, 23, 24, 25, 26, 27, 28, 29, 30, 31, 32, 33, 34, 35, 36, 37, 38, 39, 40, 41, 42, 43, 44, 45, 46, 47, 48, 49, 50, 51, 52, 53, 54, 55, 56, 57, 58, 59, 60, 61, 62, 63, 64, 65, 66, 67, 68, 69, 70, 71, 72, 73, 74, 75, 76, 77, 78, 79, 80, 81, 99, 100, 101, 102, 103, 104, 105, 106, 107, 108, 109, 110, 111, 112, 113, 114, 115, 116, 117, 118, 119, 120, 121, 122] (by decide +kernel) (by decide +kernel)
set_option maxRecDepth 20000 in
theorem gX7_setupByte_X5_describe : GoodIn wsX7_setupByte (wsV RX7 333 RX5 yX5_describe wsX5_describe) := goodIn_app (goodIn_of _ (by decide +kernel)) ggX7_setupByte_X5_describe
set_option maxRecDepth 20000 in
theorem ggX7_setupByte_X7_requireIndex : GoodIn wsX7_setupByte wsX7_requireIndex := goodIn_ca (goodIn_r _ [84, 85, 86] (by decide +kernel) (by decide +kernel)) (goodIn_sub (fun _ h => List.mem_cons_of_mem _ (List.mem_append_right _ h)) (by decide +kernel))
set_option maxRecDepth 20000 in
theorem gX7_setupByte_X7_requireIndex : GoodIn wsX7_setupByte (va_wsS RX7 241 yX7_requireIndex wsX7_requireIndex) := goodIn_app (goodIn_of _ (by decide +kernel)) ggX7_setupByte_X7_requireIndex
set_option maxRecDepth 20000 in
theorem ggX7_setupByte_X7_at : GoodIn wsX7_setupByte wsX7_at := goodIn_r _ [81] (by decide +kernel) (by decide +kernel)
set_option maxRecDepth 20000 in
theorem gX7_setupByte_X7_at : GoodIn wsX7_setupByte (va_wsS RX7 119 yX7_at wsX7_at) := goodIn_app (goodIn_of _ (by decide +kernel)) ggX7_setupByte_X7_at
theorem dX7_setupByte_0 : decode cX7_setupByte 0 = .ok (.aload_n 0, 1) := by decide +kernel
theorem dX7_setupByte_1 : decode cX7_setupByte 1 = .ok (.getfield 54, 3) := by decide +kernel
theorem dX7_setupByte_4 : decode cX7_setupByte 4 = .ok (.aload_n 0, 1) := by decide +kernel
theorem dX7_setupByte_5 : decode cX7_setupByte 5 = .ok (.getfield 16, 3) := by decide +kernel
theorem dX7_setupByte_8 : decode cX7_setupByte 8 = .ok (.invokevirtual 333, 3) := by decide +kernel
theorem dX7_setupByte_11 : decode cX7_setupByte 11 = .ok (.iload_n 1, 1) := by decide +kernel
theorem dX7_setupByte_12 : decode cX7_setupByte 12 = .ok (.aload_n 0, 1) := by decide +kernel
theorem dX7_setupByte_13 : decode cX7_setupByte 13 = .ok (.getfield 54, 3) := by decide +kernel
theorem dX7_setupByte_16 : decode cX7_setupByte 16 = .ok (.getfield 336, 3) := by decide +kernel
theorem dX7_setupByte_19 : decode cX7_setupByte 19 = .ok (.invokestatic 241, 3) := by decide +kernel
theorem dX7_setupByte_22 : decode cX7_setupByte 22 = .ok (.aload_n 0, 1) := by decide +kernel
theorem dX7_setupByte_23 : decode cX7_setupByte 23 = .ok (.getfield 54, 3) := by decide +kernel
theorem dX7_setupByte_26 : decode cX7_setupByte 26 = .ok (.getfield 339, 3) := by decide +kernel
theorem dX7_setupByte_29 : decode cX7_setupByte 29 = .ok (.iload_n 1, 1) := by decide +kernel
theorem dX7_setupByte_30 : decode cX7_setupByte 30 = .ok (.invokestatic 119, 3) := by decide +kernel
theorem dX7_setupByte_33 : decode cX7_setupByte 33 = .ok (.ireturn, 1) := by decide +kernel
theorem dX7_at_0 : decode cX7_at 0 = .ok (.iload_n 1, 1) := by decide +kernel
theorem dX7_at_1 : decode cX7_at 1 = .ok (.ifCond .lt 15, 3) := by decide +kernel
theorem dX7_at_4 : decode cX7_at 4 = .ok (.iload_n 1, 1) := by decide +kernel
theorem dX7_at_5 : decode cX7_at 5 = .ok (.aload_n 0, 1) := by decide +kernel
theorem dX7_at_6 : decode cX7_at 6 = .ok (.arraylength, 1) := by decide +kernel
theorem dX7_at_7 : decode cX7_at 7 = .ok (.if_icmp .ge 9, 3) := by decide +kernel
theorem dX7_at_10 : decode cX7_at 10 = .ok (.aload_n 0, 1) := by decide +kernel
theorem dX7_at_11 : decode cX7_at 11 = .ok (.iload_n 1, 1) := by decide +kernel
theorem dX7_at_12 : decode cX7_at 12 = .ok (.iaload, 1) := by decide +kernel
theorem dX7_at_13 : decode cX7_at 13 = .ok (.goto 4, 3) := by decide +kernel
theorem dX7_at_16 : decode cX7_at 16 = .ok (.iconst 0, 1) := by decide +kernel
theorem dX7_at_17 : decode cX7_at 17 = .ok (.ireturn, 1) := by decide +kernel
theorem dX7_put_0 : decode cX7_put 0 = .ok (.iload_n 1, 1) := by decide +kernel
theorem dX7_put_1 : decode cX7_put 1 = .ok (.ifCond .lt 13, 3) := by decide +kernel
theorem dX7_put_4 : decode cX7_put 4 = .ok (.iload_n 1, 1) := by decide +kernel
theorem dX7_put_5 : decode cX7_put 5 = .ok (.aload_n 0, 1) := by decide +kernel
theorem dX7_put_6 : decode cX7_put 6 = .ok (.arraylength, 1) := by decide +kernel
theorem dX7_put_7 : decode cX7_put 7 = .ok (.if_icmp .ge 7, 3) := by decide +kernel
theorem dX7_put_10 : decode cX7_put 10 = .ok (.aload_n 0, 1) := by decide +kernel
theorem dX7_put_11 : decode cX7_put 11 = .ok (.iload_n 1, 1) := by decide +kernel
theorem dX7_put_12 : decode cX7_put 12 = .ok (.iload_n 2, 1) := by decide +kernel
theorem dX7_put_13 : decode cX7_put 13 = .ok (.iastore, 1) := by decide +kernel
theorem dX7_put_14 : decode cX7_put 14 = .ok (.return_, 1) := by decide +kernel
theorem dX7_copyRow_0 : decode cX7_copyRow 0 = .ok (.iload_n 2, 1) := by decide +kernel
theorem dX7_copyRow_1 : decode cX7_copyRow 1 = .ok (.aload_n 0, 1) := by decide +kernel
theorem dX7_copyRow_2 : decode cX7_copyRow 2 = .ok (.arraylength, 1) := by decide +kernel
theorem dX7_copyRow_3 : decode cX7_copyRow 3 = .ok (.aload_n 1, 1) := by decide +kernel
theorem dX7_copyRow_4 : decode cX7_copyRow 4 = .ok (.arraylength, 1) := by decide +kernel
theorem dX7_copyRow_5 : decode cX7_copyRow 5 = .ok (.invokestatic 342, 3) := by decide +kernel
theorem dX7_copyRow_8 : decode cX7_copyRow 8 = .ok (.invokestatic 342, 3) := by decide +kernel
theorem dX7_copyRow_11 : decode cX7_copyRow 11 = .ok (.istore_n 3, 1) := by decide +kernel
theorem dX7_copyRow_12 : decode cX7_copyRow 12 = .ok (.iload_n 3, 1) := by decide +kernel
theorem dX7_copyRow_13 : decode cX7_copyRow 13 = .ok (.ifCond .le 11, 3) := by decide +kernel
theorem dX7_copyRow_16 : decode cX7_copyRow 16 = .ok (.aload_n 0, 1) := by decide +kernel
theorem dX7_copyRow_17 : decode cX7_copyRow 17 = .ok (.iconst 0, 1) := by decide +kernel
theorem dX7_copyRow_18 : decode cX7_copyRow 18 = .ok (.aload_n 1, 1) := by decide +kernel
theorem dX7_copyRow_19 : decode cX7_copyRow 19 = .ok (.iconst 0, 1) := by decide +kernel
theorem dX7_copyRow_20 : decode cX7_copyRow 20 = .ok (.iload_n 3, 1) := by decide +kernel
theorem dX7_copyRow_21 : decode cX7_copyRow 21 = .ok (.invokestatic 345, 3) := by decide +kernel
theorem dX7_copyRow_24 : decode cX7_copyRow 24 = .ok (.return_, 1) := by decide +kernel
theorem dX7_widthFor_0 : decode cX7_widthFor 0 = .ok (.iconst 1, 1) := by decide +kernel
theorem dX7_widthFor_1 : decode cX7_widthFor 1 = .ok (.istore_n 1, 1) := by decide +kernel
theorem dX7_widthFor_2 : decode cX7_widthFor 2 = .ok (.iload_n 1, 1) := by decide +kernel
theorem dX7_widthFor_3 : decode cX7_widthFor 3 = .ok (.bipush 30, 2) := by decide +kernel
theorem dX7_widthFor_5 : decode cX7_widthFor 5 = .ok (.if_icmp .ge 16, 3) := by decide +kernel
theorem dX7_widthFor_8 : decode cX7_widthFor 8 = .ok (.iconst 1, 1) := by decide +kernel
theorem dX7_widthFor_9 : decode cX7_widthFor 9 = .ok (.iload_n 1, 1) := by decide +kernel
theorem dX7_widthFor_10 : decode cX7_widthFor 10 = .ok (.ishl, 1) := by decide +kernel
theorem dX7_widthFor_11 : decode cX7_widthFor 11 = .ok (.iload_n 0, 1) := by decide +kernel
theorem dX7_widthFor_12 : decode cX7_widthFor 12 = .ok (.if_icmp .ge 9, 3) := by decide +kernel
theorem dX7_widthFor_15 : decode cX7_widthFor 15 = .ok (.iinc 1 1, 3) := by decide +kernel
theorem dX7_widthFor_18 : decode cX7_widthFor 18 = .ok (.goto (-16), 3) := by decide +kernel
theorem dX7_widthFor_21 : decode cX7_widthFor 21 = .ok (.iload_n 1, 1) := by decide +kernel
theorem dX7_widthFor_22 : decode cX7_widthFor 22 = .ok (.ireturn, 1) := by decide +kernel
theorem dX7_nameOfPolicy_0 : decode cX7_nameOfPolicy 0 = .ok (.iload_n 0, 1) := by decide +kernel
theorem dX7_nameOfPolicy_1 : decode cX7_nameOfPolicy 1 = .ok (.ifCond .ne 7, 3) := by decide +kernel
theorem dX7_nameOfPolicy_4 : decode cX7_nameOfPolicy 4 = .ok (.ldc_w 351, 3) := by decide +kernel
theorem dX7_nameOfPolicy_7 : decode cX7_nameOfPolicy 7 = .ok (.areturn, 1) := by decide +kernel
theorem dX7_nameOfPolicy_8 : decode cX7_nameOfPolicy 8 = .ok (.iload_n 0, 1) := by decide +kernel
theorem dX7_nameOfPolicy_9 : decode cX7_nameOfPolicy 9 = .ok (.iconst 1, 1) := by decide +kernel
theorem dX7_nameOfPolicy_10 : decode cX7_nameOfPolicy 10 = .ok (.if_icmp .ne 9, 3) := by decide +kernel
theorem dX7_nameOfPolicy_13 : decode cX7_nameOfPolicy 13 = .ok (.ldc_w 353, 3) := by decide +kernel
theorem dX7_nameOfPolicy_16 : decode cX7_nameOfPolicy 16 = .ok (.goto 6, 3) := by decide +kernel
theorem dX7_nameOfPolicy_19 : decode cX7_nameOfPolicy 19 = .ok (.ldc_w 355, 3) := by decide +kernel
theorem dX7_nameOfPolicy_22 : decode cX7_nameOfPolicy 22 = .ok (.areturn, 1) := by decide +kernel
abbrev vwCl : List vw_C := [(RX0, TX0, 4), (RX1, TX1, 8), (RX2, TX2, 14), (RX3, TX3, 4), (RX4, TX4, 6), (RX5, TX5, 2), (RX6, TX6, 5), (RX7, TX7, 11), (RX8, TX8, 27)]
