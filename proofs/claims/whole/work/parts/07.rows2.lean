set_option maxRecDepth 20000 in
theorem ggX8_prefixOf_X8_throwing : GoodIn wsX8_prefixOf wsX8_throwing := goodIn_r _ [13, 14, 27, 28, 29, 30, 31, 32, 33, 34, 35, 36, 37, 38, 39, 40, 41, 42, 43, 44, 45, 46, 47, 48, 49, 50, 51, 52, 53] (by decide +kernel) (by decide +kernel)
set_option maxRecDepth 20000 in
theorem gX8_prefixOf_X8_throwing : GoodIn wsX8_prefixOf (wsV RX8 59 RX8 yX8_throwing wsX8_throwing) := goodIn_app (goodIn_of _ (by decide +kernel)) ggX8_prefixOf_X8_throwing
set_option maxRecDepth 20000 in
theorem ggX8_prefixOf_X8_isFirst : GoodIn wsX8_prefixOf wsX8_isFirst := goodIn_r _ [18, 19, 20, 21, 5, 22, 1, 27, 28, 29, 30, 31, 32, 33, 34, 35, 36, 37, 38, 39, 40, 41, 42, 43, 44, 45, 46, 47, 48, 49, 50, 51, 52, 53] (by decide +kernel) (by decide +kernel)
set_option maxRecDepth 20000 in
theorem gX8_prefixOf_X8_isFirst : GoodIn wsX8_prefixOf (wsV RX8 83 RX8 yX8_isFirst wsX8_isFirst) := goodIn_app (goodIn_of _ (by decide +kernel)) ggX8_prefixOf_X8_isFirst
set_option maxRecDepth 20000 in
theorem ggX8_prefixOf_X8_told : GoodIn wsX8_prefixOf wsX8_told := goodIn_r _ [26, 14, 27, 28, 29, 30, 31, 32, 33, 34, 35, 36, 37, 38, 39, 40, 41, 42, 43, 44, 45, 46, 47, 48, 49, 50, 51, 52, 53] (by decide +kernel) (by decide +kernel)
set_option maxRecDepth 20000 in
theorem gX8_prefixOf_X8_told : GoodIn wsX8_prefixOf (wsV RX8 55 RX8 yX8_told wsX8_told) := goodIn_app (goodIn_of _ (by decide +kernel)) ggX8_prefixOf_X8_told
theorem dX8_prefixOf_0 : decode cX8_prefixOf 0 = .ok (.aload_n 0, 1) := by decide +kernel
theorem dX8_prefixOf_1 : decode cX8_prefixOf 1 = .ok (.iload_n 1, 1) := by decide +kernel
theorem dX8_prefixOf_2 : decode cX8_prefixOf 2 = .ok (.invokevirtual 320, 3) := by decide +kernel
theorem dX8_prefixOf_5 : decode cX8_prefixOf 5 = .ok (.ifCond .ne 9, 3) := by decide +kernel
theorem dX8_prefixOf_8 : decode cX8_prefixOf 8 = .ok (.aload_n 0, 1) := by decide +kernel
theorem dX8_prefixOf_9 : decode cX8_prefixOf 9 = .ok (.iconst 1, 1) := by decide +kernel
theorem dX8_prefixOf_10 : decode cX8_prefixOf 10 = .ok (.invokevirtual 59, 3) := by decide +kernel
theorem dX8_prefixOf_13 : decode cX8_prefixOf 13 = .ok (.ireturn, 1) := by decide +kernel
theorem dX8_prefixOf_14 : decode cX8_prefixOf 14 = .ok (.aload_n 0, 1) := by decide +kernel
theorem dX8_prefixOf_15 : decode cX8_prefixOf 15 = .ok (.iload_n 1, 1) := by decide +kernel
theorem dX8_prefixOf_16 : decode cX8_prefixOf 16 = .ok (.invokevirtual 83, 3) := by decide +kernel
theorem dX8_prefixOf_19 : decode cX8_prefixOf 19 = .ok (.ifCond .eq 9, 3) := by decide +kernel
theorem dX8_prefixOf_22 : decode cX8_prefixOf 22 = .ok (.aload_n 0, 1) := by decide +kernel
theorem dX8_prefixOf_23 : decode cX8_prefixOf 23 = .ok (.iconst 2, 1) := by decide +kernel
theorem dX8_prefixOf_24 : decode cX8_prefixOf 24 = .ok (.invokevirtual 59, 3) := by decide +kernel
theorem dX8_prefixOf_27 : decode cX8_prefixOf 27 = .ok (.ireturn, 1) := by decide +kernel
theorem dX8_prefixOf_28 : decode cX8_prefixOf 28 = .ok (.aload_n 0, 1) := by decide +kernel
theorem dX8_prefixOf_29 : decode cX8_prefixOf 29 = .ok (.aload_n 0, 1) := by decide +kernel
theorem dX8_prefixOf_30 : decode cX8_prefixOf 30 = .ok (.getfield 17, 3) := by decide +kernel
theorem dX8_prefixOf_33 : decode cX8_prefixOf 33 = .ok (.bipush 14, 2) := by decide +kernel
theorem dX8_prefixOf_35 : decode cX8_prefixOf 35 = .ok (.iload_n 1, 1) := by decide +kernel
theorem dX8_prefixOf_36 : decode cX8_prefixOf 36 = .ok (.iadd, 1) := by decide +kernel
theorem dX8_prefixOf_37 : decode cX8_prefixOf 37 = .ok (.iaload, 1) := by decide +kernel
theorem dX8_prefixOf_38 : decode cX8_prefixOf 38 = .ok (.invokevirtual 55, 3) := by decide +kernel
theorem dX8_prefixOf_41 : decode cX8_prefixOf 41 = .ok (.ireturn, 1) := by decide +kernel
set_option maxRecDepth 20000 in
theorem ggX8_extensionOf_X8_isCode : GoodIn wsX8_extensionOf wsX8_isCode := goodIn_r _ [5, 6, 7, 8, 4, 9, 31, 32, 33, 34, 35, 36, 37, 38, 39, 40, 41, 42, 43, 44, 45, 46, 47, 48, 49, 50, 51, 52, 53, 54, 55, 56, 57] (by decide +kernel) (by decide +kernel)
set_option maxRecDepth 20000 in
theorem gX8_extensionOf_X8_isCode : GoodIn wsX8_extensionOf (wsV RX8 320 RX8 yX8_isCode wsX8_isCode) := goodIn_app (goodIn_of _ (by decide +kernel)) ggX8_extensionOf_X8_isCode
set_option maxRecDepth 20000 in
theorem ggX8_extensionOf_X8_throwing : GoodIn wsX8_extensionOf wsX8_throwing := goodIn_r _ [13, 14, 31, 32, 33, 34, 35, 36, 37, 38, 39, 40, 41, 42, 43, 44, 45, 46, 47, 48, 49, 50, 51, 52, 53, 54, 55, 56, 57] (by decide +kernel) (by decide +kernel)
set_option maxRecDepth 20000 in
theorem gX8_extensionOf_X8_throwing : GoodIn wsX8_extensionOf (wsV RX8 59 RX8 yX8_throwing wsX8_throwing) := goodIn_app (goodIn_of _ (by decide +kernel)) ggX8_extensionOf_X8_throwing
set_option maxRecDepth 20000 in
theorem ggX8_extensionOf_X8_isSymbol : GoodIn wsX8_extensionOf wsX8_isSymbol := goodIn_r _ [18, 6, 7, 8, 4, 9, 31, 32, 33, 34, 35, 36, 37, 38, 39, 40, 41, 42, 43, 44, 45, 46, 47, 48, 49, 50, 51, 52, 53, 54, 55, 56, 57] (by decide +kernel) (by decide +kernel)
set_option maxRecDepth 20000 in
theorem gX8_extensionOf_X8_isSymbol : GoodIn wsX8_extensionOf (wsV RX8 144 RX8 yX8_isSymbol wsX8_isSymbol) := goodIn_app (goodIn_of _ (by decide +kernel)) ggX8_extensionOf_X8_isSymbol
set_option maxRecDepth 20000 in
theorem ggX8_extensionOf_X8_clear : GoodIn wsX8_extensionOf wsX8_clear := goodIn_r _ [22, 6, 31, 32, 33, 34, 35, 36, 37, 38, 39, 40, 41, 42, 43, 44, 45, 46, 47, 48, 49, 50, 51, 52, 53, 54, 55, 56, 57] (by decide +kernel) (by decide +kernel)
set_option maxRecDepth 20000 in
theorem gX8_extensionOf_X8_clear : GoodIn wsX8_extensionOf (wsV RX8 80 RX8 yX8_clear wsX8_clear) := goodIn_app (goodIn_of _ (by decide +kernel)) ggX8_extensionOf_X8_clear
set_option maxRecDepth 20000 in
theorem ggX8_extensionOf_X8_longer : GoodIn wsX8_extensionOf wsX8_longer := goodIn_r _ [26, 6, 19, 20, 21, 4, 22, 31, 32, 33, 34, 35, 36, 37, 38, 39, 40, 41, 42, 43, 44, 45, 46, 47, 48, 49, 50, 51, 52, 53, 54, 55, 56, 57] (by decide +kernel) (by decide +kernel)
set_option maxRecDepth 20000 in
theorem gX8_extensionOf_X8_longer : GoodIn wsX8_extensionOf (wsV RX8 138 RX8 yX8_longer wsX8_longer) := goodIn_app (goodIn_of _ (by decide +kernel)) ggX8_extensionOf_X8_longer
set_option maxRecDepth 20000 in
theorem ggX8_extensionOf_X8_told : GoodIn wsX8_extensionOf wsX8_told := goodIn_r _ [30, 14, 31, 32, 33, 34, 35, 36, 37, 38, 39, 40, 41, 42, 43, 44, 45, 46, 47, 48, 49, 50, 51, 52, 53, 54, 55, 56, 57] (by decide +kernel) (by decide +kernel)
set_option maxRecDepth 20000 in
theorem gX8_extensionOf_X8_told : GoodIn wsX8_extensionOf (wsV RX8 55 RX8 yX8_told wsX8_told) := goodIn_app (goodIn_of _ (by decide +kernel)) ggX8_extensionOf_X8_told
theorem dX8_extensionOf_0 : decode cX8_extensionOf 0 = .ok (.aload_n 0, 1) := by decide +kernel
theorem dX8_extensionOf_1 : decode cX8_extensionOf 1 = .ok (.iload_n 1, 1) := by decide +kernel
theorem dX8_extensionOf_2 : decode cX8_extensionOf 2 = .ok (.invokevirtual 320, 3) := by decide +kernel
theorem dX8_extensionOf_5 : decode cX8_extensionOf 5 = .ok (.ifCond .ne 9, 3) := by decide +kernel
theorem dX8_extensionOf_8 : decode cX8_extensionOf 8 = .ok (.aload_n 0, 1) := by decide +kernel
theorem dX8_extensionOf_9 : decode cX8_extensionOf 9 = .ok (.iconst 1, 1) := by decide +kernel
theorem dX8_extensionOf_10 : decode cX8_extensionOf 10 = .ok (.invokevirtual 59, 3) := by decide +kernel
theorem dX8_extensionOf_13 : decode cX8_extensionOf 13 = .ok (.ireturn, 1) := by decide +kernel
theorem dX8_extensionOf_14 : decode cX8_extensionOf 14 = .ok (.aload_n 0, 1) := by decide +kernel
theorem dX8_extensionOf_15 : decode cX8_extensionOf 15 = .ok (.iload_n 2, 1) := by decide +kernel
theorem dX8_extensionOf_16 : decode cX8_extensionOf 16 = .ok (.invokevirtual 144, 3) := by decide +kernel
theorem dX8_extensionOf_19 : decode cX8_extensionOf 19 = .ok (.ifCond .ne 9, 3) := by decide +kernel
theorem dX8_extensionOf_22 : decode cX8_extensionOf 22 = .ok (.aload_n 0, 1) := by decide +kernel
theorem dX8_extensionOf_23 : decode cX8_extensionOf 23 = .ok (.iconst 2, 1) := by decide +kernel
theorem dX8_extensionOf_24 : decode cX8_extensionOf 24 = .ok (.invokevirtual 59, 3) := by decide +kernel
theorem dX8_extensionOf_27 : decode cX8_extensionOf 27 = .ok (.ireturn, 1) := by decide +kernel
theorem dX8_extensionOf_28 : decode cX8_extensionOf 28 = .ok (.iload_n 1, 1) := by decide +kernel
theorem dX8_extensionOf_29 : decode cX8_extensionOf 29 = .ok (.aload_n 0, 1) := by decide +kernel
theorem dX8_extensionOf_30 : decode cX8_extensionOf 30 = .ok (.invokevirtual 80, 3) := by decide +kernel
theorem dX8_extensionOf_33 : decode cX8_extensionOf 33 = .ok (.if_icmp .ne 9, 3) := by decide +kernel
theorem dX8_extensionOf_36 : decode cX8_extensionOf 36 = .ok (.aload_n 0, 1) := by decide +kernel
theorem dX8_extensionOf_37 : decode cX8_extensionOf 37 = .ok (.iconst 2, 1) := by decide +kernel
theorem dX8_extensionOf_38 : decode cX8_extensionOf 38 = .ok (.invokevirtual 59, 3) := by decide +kernel
theorem dX8_extensionOf_41 : decode cX8_extensionOf 41 = .ok (.ireturn, 1) := by decide +kernel
theorem dX8_extensionOf_42 : decode cX8_extensionOf 42 = .ok (.aload_n 0, 1) := by decide +kernel
theorem dX8_extensionOf_43 : decode cX8_extensionOf 43 = .ok (.iload_n 1, 1) := by decide +kernel
theorem dX8_extensionOf_44 : decode cX8_extensionOf 44 = .ok (.iload_n 2, 1) := by decide +kernel
theorem dX8_extensionOf_45 : decode cX8_extensionOf 45 = .ok (.invokevirtual 138, 3) := by decide +kernel
theorem dX8_extensionOf_48 : decode cX8_extensionOf 48 = .ok (.istore_n 3, 1) := by decide +kernel
theorem dX8_extensionOf_49 : decode cX8_extensionOf 49 = .ok (.iload_n 3, 1) := by decide +kernel
theorem dX8_extensionOf_50 : decode cX8_extensionOf 50 = .ok (.ifCond .ge 9, 3) := by decide +kernel
theorem dX8_extensionOf_53 : decode cX8_extensionOf 53 = .ok (.aload_n 0, 1) := by decide +kernel
theorem dX8_extensionOf_54 : decode cX8_extensionOf 54 = .ok (.iconst 3, 1) := by decide +kernel
theorem dX8_extensionOf_55 : decode cX8_extensionOf 55 = .ok (.invokevirtual 59, 3) := by decide +kernel
theorem dX8_extensionOf_58 : decode cX8_extensionOf 58 = .ok (.ireturn, 1) := by decide +kernel
theorem dX8_extensionOf_59 : decode cX8_extensionOf 59 = .ok (.aload_n 0, 1) := by decide +kernel
theorem dX8_extensionOf_60 : decode cX8_extensionOf 60 = .ok (.iload_n 3, 1) := by decide +kernel
theorem dX8_extensionOf_61 : decode cX8_extensionOf 61 = .ok (.invokevirtual 55, 3) := by decide +kernel
theorem dX8_extensionOf_64 : decode cX8_extensionOf 64 = .ok (.ireturn, 1) := by decide +kernel
set_option maxRecDepth 20000 in
theorem ggX8_extensionCount_X8_isCode : GoodIn wsX8_extensionCount wsX8_isCode := goodIn_r _ [6, 1, 7, 8, 5, 9, 23, 24, 25, 26, 27, 28, 29, 30, 31, 32, 33, 34, 35, 36, 37, 38, 39, 40, 41, 42, 43, 44, 45, 46, 47, 48, 49] (by decide +kernel) (by decide +kernel)
set_option maxRecDepth 20000 in
theorem gX8_extensionCount_X8_isCode : GoodIn wsX8_extensionCount (wsV RX8 320 RX8 yX8_isCode wsX8_isCode) := goodIn_app (goodIn_of _ (by decide +kernel)) ggX8_extensionCount_X8_isCode
set_option maxRecDepth 20000 in
theorem ggX8_extensionCount_X8_throwing : GoodIn wsX8_extensionCount wsX8_throwing := goodIn_r _ [13, 14, 23, 24, 25, 26, 27, 28, 29, 30, 31, 32, 33, 34, 35, 36, 37, 38, 39, 40, 41, 42, 43, 44, 45, 46, 47, 48, 49] (by decide +kernel) (by decide +kernel)
set_option maxRecDepth 20000 in
theorem gX8_extensionCount_X8_throwing : GoodIn wsX8_extensionCount (wsV RX8 59 RX8 yX8_throwing wsX8_throwing) := goodIn_app (goodIn_of _ (by decide +kernel)) ggX8_extensionCount_X8_throwing
set_option maxRecDepth 20000 in
theorem ggX8_extensionCount_X8_clear : GoodIn wsX8_extensionCount wsX8_clear := goodIn_r _ [18, 1, 23, 24, 25, 26, 27, 28, 29, 30, 31, 32, 33, 34, 35, 36, 37, 38, 39, 40, 41, 42, 43, 44, 45, 46, 47, 48, 49] (by decide +kernel) (by decide +kernel)
set_option maxRecDepth 20000 in
theorem gX8_extensionCount_X8_clear : GoodIn wsX8_extensionCount (wsV RX8 80 RX8 yX8_clear wsX8_clear) := goodIn_app (goodIn_of _ (by decide +kernel)) ggX8_extensionCount_X8_clear
set_option maxRecDepth 20000 in
theorem ggX8_extensionCount_X8_told : GoodIn wsX8_extensionCount wsX8_told := goodIn_r _ [22, 14, 23, 24, 25, 26, 27, 28, 29, 30, 31, 32, 33, 34, 35, 36, 37, 38, 39, 40, 41, 42, 43, 44, 45, 46, 47, 48, 49] (by decide +kernel) (by decide +kernel)
set_option maxRecDepth 20000 in
theorem gX8_extensionCount_X8_told : GoodIn wsX8_extensionCount (wsV RX8 55 RX8 yX8_told wsX8_told) := goodIn_app (goodIn_of _ (by decide +kernel)) ggX8_extensionCount_X8_told
theorem dX8_extensionCount_0 : decode cX8_extensionCount 0 = .ok (.aload_n 0, 1) := by decide +kernel
theorem dX8_extensionCount_1 : decode cX8_extensionCount 1 = .ok (.iload_n 1, 1) := by decide +kernel
theorem dX8_extensionCount_2 : decode cX8_extensionCount 2 = .ok (.invokevirtual 320, 3) := by decide +kernel
theorem dX8_extensionCount_5 : decode cX8_extensionCount 5 = .ok (.ifCond .ne 9, 3) := by decide +kernel
theorem dX8_extensionCount_8 : decode cX8_extensionCount 8 = .ok (.aload_n 0, 1) := by decide +kernel
theorem dX8_extensionCount_9 : decode cX8_extensionCount 9 = .ok (.iconst 1, 1) := by decide +kernel
theorem dX8_extensionCount_10 : decode cX8_extensionCount 10 = .ok (.invokevirtual 59, 3) := by decide +kernel
theorem dX8_extensionCount_13 : decode cX8_extensionCount 13 = .ok (.ireturn, 1) := by decide +kernel
theorem dX8_extensionCount_14 : decode cX8_extensionCount 14 = .ok (.iconst 0, 1) := by decide +kernel
theorem dX8_extensionCount_15 : decode cX8_extensionCount 15 = .ok (.istore_n 2, 1) := by decide +kernel
theorem dX8_extensionCount_16 : decode cX8_extensionCount 16 = .ok (.aload_n 0, 1) := by decide +kernel
theorem dX8_extensionCount_17 : decode cX8_extensionCount 17 = .ok (.invokevirtual 80, 3) := by decide +kernel
theorem dX8_extensionCount_20 : decode cX8_extensionCount 20 = .ok (.iconst 1, 1) := by decide +kernel
theorem dX8_extensionCount_21 : decode cX8_extensionCount 21 = .ok (.iadd, 1) := by decide +kernel
theorem dX8_extensionCount_22 : decode cX8_extensionCount 22 = .ok (.istore_n 3, 1) := by decide +kernel
theorem dX8_extensionCount_23 : decode cX8_extensionCount 23 = .ok (.iload_n 3, 1) := by decide +kernel
theorem dX8_extensionCount_24 : decode cX8_extensionCount 24 = .ok (.aload_n 0, 1) := by decide +kernel
theorem dX8_extensionCount_25 : decode cX8_extensionCount 25 = .ok (.getfield 17, 3) := by decide +kernel
theorem dX8_extensionCount_28 : decode cX8_extensionCount 28 = .ok (.iconst 4, 1) := by decide +kernel
theorem dX8_extensionCount_29 : decode cX8_extensionCount 29 = .ok (.iaload, 1) := by decide +kernel
theorem dX8_extensionCount_30 : decode cX8_extensionCount 30 = .ok (.if_icmp .ge 25, 3) := by decide +kernel
theorem dX8_extensionCount_33 : decode cX8_extensionCount 33 = .ok (.aload_n 0, 1) := by decide +kernel
theorem dX8_extensionCount_34 : decode cX8_extensionCount 34 = .ok (.getfield 17, 3) := by decide +kernel
theorem dX8_extensionCount_37 : decode cX8_extensionCount 37 = .ok (.bipush 14, 2) := by decide +kernel
theorem dX8_extensionCount_39 : decode cX8_extensionCount 39 = .ok (.iload_n 3, 1) := by decide +kernel
theorem dX8_extensionCount_40 : decode cX8_extensionCount 40 = .ok (.iadd, 1) := by decide +kernel
theorem dX8_extensionCount_41 : decode cX8_extensionCount 41 = .ok (.iaload, 1) := by decide +kernel
theorem dX8_extensionCount_42 : decode cX8_extensionCount 42 = .ok (.iload_n 1, 1) := by decide +kernel
theorem dX8_extensionCount_43 : decode cX8_extensionCount 43 = .ok (.if_icmp .ne 6, 3) := by decide +kernel
theorem dX8_extensionCount_46 : decode cX8_extensionCount 46 = .ok (.iinc 2 1, 3) := by decide +kernel
theorem dX8_extensionCount_49 : decode cX8_extensionCount 49 = .ok (.iinc 3 1, 3) := by decide +kernel
theorem dX8_extensionCount_52 : decode cX8_extensionCount 52 = .ok (.goto (-29), 3) := by decide +kernel
theorem dX8_extensionCount_55 : decode cX8_extensionCount 55 = .ok (.aload_n 0, 1) := by decide +kernel
theorem dX8_extensionCount_56 : decode cX8_extensionCount 56 = .ok (.iload_n 2, 1) := by decide +kernel
theorem dX8_extensionCount_57 : decode cX8_extensionCount 57 = .ok (.invokevirtual 55, 3) := by decide +kernel
theorem dX8_extensionCount_60 : decode cX8_extensionCount 60 = .ok (.ireturn, 1) := by decide +kernel
set_option maxRecDepth 20000 in
theorem ggX8_longestPhrase_X8_lengthOf : GoodIn wsX8_longestPhrase wsX8_lengthOf := goodIn_r _ [6, 1, 7, 8, 9, 5, 10, 11, 12, 13, 14, 20, 21, 22, 23, 24, 25, 26, 27, 28, 29, 30, 31, 32, 33, 34, 35, 36, 37, 38, 39, 40, 41, 42, 43, 44, 45, 46] (by decide +kernel) (by decide +kernel)
set_option maxRecDepth 20000 in
theorem gX8_longestPhrase_X8_lengthOf : GoodIn wsX8_longestPhrase (wsV RX8 86 RX8 yX8_lengthOf wsX8_lengthOf) := goodIn_app (goodIn_of _ (by decide +kernel)) ggX8_longestPhrase_X8_lengthOf
set_option maxRecDepth 20000 in
theorem ggX8_longestPhrase_X8_told : GoodIn wsX8_longestPhrase wsX8_told := goodIn_r _ [18, 19, 20, 21, 22, 23, 24, 25, 26, 27, 28, 29, 30, 31, 32, 33, 34, 35, 36, 37, 38, 39, 40, 41, 42, 43, 44, 45, 46] (by decide +kernel) (by decide +kernel)
set_option maxRecDepth 20000 in
theorem gX8_longestPhrase_X8_told : GoodIn wsX8_longestPhrase (wsV RX8 55 RX8 yX8_told wsX8_told) := goodIn_app (goodIn_of _ (by decide +kernel)) ggX8_longestPhrase_X8_told
theorem dX8_longestPhrase_0 : decode cX8_longestPhrase 0 = .ok (.iconst 0, 1) := by decide +kernel
theorem dX8_longestPhrase_1 : decode cX8_longestPhrase 1 = .ok (.istore_n 1, 1) := by decide +kernel
theorem dX8_longestPhrase_2 : decode cX8_longestPhrase 2 = .ok (.aload_n 0, 1) := by decide +kernel
theorem dX8_longestPhrase_3 : decode cX8_longestPhrase 3 = .ok (.iload_n 1, 1) := by decide +kernel
theorem dX8_longestPhrase_4 : decode cX8_longestPhrase 4 = .ok (.invokevirtual 86, 3) := by decide +kernel
theorem dX8_longestPhrase_7 : decode cX8_longestPhrase 7 = .ok (.istore_n 2, 1) := by decide +kernel
theorem dX8_longestPhrase_8 : decode cX8_longestPhrase 8 = .ok (.iconst 1, 1) := by decide +kernel
theorem dX8_longestPhrase_9 : decode cX8_longestPhrase 9 = .ok (.istore_n 3, 1) := by decide +kernel
theorem dX8_longestPhrase_10 : decode cX8_longestPhrase 10 = .ok (.iload_n 3, 1) := by decide +kernel
theorem dX8_longestPhrase_11 : decode cX8_longestPhrase 11 = .ok (.aload_n 0, 1) := by decide +kernel
theorem dX8_longestPhrase_12 : decode cX8_longestPhrase 12 = .ok (.getfield 17, 3) := by decide +kernel
theorem dX8_longestPhrase_15 : decode cX8_longestPhrase 15 = .ok (.iconst 4, 1) := by decide +kernel
theorem dX8_longestPhrase_16 : decode cX8_longestPhrase 16 = .ok (.iaload, 1) := by decide +kernel
theorem dX8_longestPhrase_17 : decode cX8_longestPhrase 17 = .ok (.if_icmp .ge 27, 3) := by decide +kernel
theorem dX8_longestPhrase_20 : decode cX8_longestPhrase 20 = .ok (.aload_n 0, 1) := by decide +kernel
theorem dX8_longestPhrase_21 : decode cX8_longestPhrase 21 = .ok (.iload_n 3, 1) := by decide +kernel
theorem dX8_longestPhrase_22 : decode cX8_longestPhrase 22 = .ok (.invokevirtual 86, 3) := by decide +kernel
theorem dX8_longestPhrase_25 : decode cX8_longestPhrase 25 = .ok (.istore 4, 2) := by decide +kernel
theorem dX8_longestPhrase_27 : decode cX8_longestPhrase 27 = .ok (.iload 4, 2) := by decide +kernel
theorem dX8_longestPhrase_29 : decode cX8_longestPhrase 29 = .ok (.iload_n 2, 1) := by decide +kernel
theorem dX8_longestPhrase_30 : decode cX8_longestPhrase 30 = .ok (.if_icmp .le 8, 3) := by decide +kernel
theorem dX8_longestPhrase_33 : decode cX8_longestPhrase 33 = .ok (.iload_n 3, 1) := by decide +kernel
theorem dX8_longestPhrase_34 : decode cX8_longestPhrase 34 = .ok (.istore_n 1, 1) := by decide +kernel
theorem dX8_longestPhrase_35 : decode cX8_longestPhrase 35 = .ok (.iload 4, 2) := by decide +kernel
theorem dX8_longestPhrase_37 : decode cX8_longestPhrase 37 = .ok (.istore_n 2, 1) := by decide +kernel
theorem dX8_longestPhrase_38 : decode cX8_longestPhrase 38 = .ok (.iinc 3 1, 3) := by decide +kernel
theorem dX8_longestPhrase_41 : decode cX8_longestPhrase 41 = .ok (.goto (-31), 3) := by decide +kernel
theorem dX8_longestPhrase_44 : decode cX8_longestPhrase 44 = .ok (.aload_n 0, 1) := by decide +kernel
theorem dX8_longestPhrase_45 : decode cX8_longestPhrase 45 = .ok (.iload_n 1, 1) := by decide +kernel
theorem dX8_longestPhrase_46 : decode cX8_longestPhrase 46 = .ok (.invokevirtual 55, 3) := by decide +kernel
theorem dX8_longestPhrase_49 : decode cX8_longestPhrase 49 = .ok (.ireturn, 1) := by decide +kernel
set_option maxRecDepth 20000 in
theorem ggX8_usesOf_X8_isCode : GoodIn wsX8_usesOf wsX8_isCode := goodIn_r _ [6, 1, 7, 8, 5, 9, 23, 24, 25, 26, 27, 28, 29, 30, 31, 32, 33, 34, 35, 36, 37, 38, 39, 40, 41, 42, 43, 44, 45, 46, 47, 48, 49] (by decide +kernel) (by decide +kernel)
set_option maxRecDepth 20000 in
theorem gX8_usesOf_X8_isCode : GoodIn wsX8_usesOf (wsV RX8 320 RX8 yX8_isCode wsX8_isCode) := goodIn_app (goodIn_of _ (by decide +kernel)) ggX8_usesOf_X8_isCode
set_option maxRecDepth 20000 in
theorem ggX8_usesOf_X8_throwing : GoodIn wsX8_usesOf wsX8_throwing := goodIn_r _ [13, 14, 23, 24, 25, 26, 27, 28, 29, 30, 31, 32, 33, 34, 35, 36, 37, 38, 39, 40, 41, 42, 43, 44, 45, 46, 47, 48, 49] (by decide +kernel) (by decide +kernel)
set_option maxRecDepth 20000 in
theorem gX8_usesOf_X8_throwing : GoodIn wsX8_usesOf (wsV RX8 59 RX8 yX8_throwing wsX8_throwing) := goodIn_app (goodIn_of _ (by decide +kernel)) ggX8_usesOf_X8_throwing
set_option maxRecDepth 20000 in
theorem ggX8_usesOf_X8_codeAt : GoodIn wsX8_usesOf wsX8_codeAt := goodIn_r _ [18, 1, 23, 24, 25, 26, 27, 28, 29, 30, 31, 32, 33, 34, 35, 36, 37, 38, 39, 40, 41, 42, 43, 44, 45, 46, 47, 48, 49] (by decide +kernel) (by decide +kernel)
set_option maxRecDepth 20000 in
theorem gX8_usesOf_X8_codeAt : GoodIn wsX8_usesOf (wsV RX8 99 RX8 yX8_codeAt wsX8_codeAt) := goodIn_app (goodIn_of _ (by decide +kernel)) ggX8_usesOf_X8_codeAt
set_option maxRecDepth 20000 in
theorem ggX8_usesOf_X8_told : GoodIn wsX8_usesOf wsX8_told := goodIn_r _ [22, 14, 23, 24, 25, 26, 27, 28, 29, 30, 31, 32, 33, 34, 35, 36, 37, 38, 39, 40, 41, 42, 43, 44, 45, 46, 47, 48, 49] (by decide +kernel) (by decide +kernel)
set_option maxRecDepth 20000 in
theorem gX8_usesOf_X8_told : GoodIn wsX8_usesOf (wsV RX8 55 RX8 yX8_told wsX8_told) := goodIn_app (goodIn_of _ (by decide +kernel)) ggX8_usesOf_X8_told
theorem dX8_usesOf_0 : decode cX8_usesOf 0 = .ok (.aload_n 0, 1) := by decide +kernel
theorem dX8_usesOf_1 : decode cX8_usesOf 1 = .ok (.iload_n 1, 1) := by decide +kernel
theorem dX8_usesOf_2 : decode cX8_usesOf 2 = .ok (.invokevirtual 320, 3) := by decide +kernel
theorem dX8_usesOf_5 : decode cX8_usesOf 5 = .ok (.ifCond .ne 9, 3) := by decide +kernel
theorem dX8_usesOf_8 : decode cX8_usesOf 8 = .ok (.aload_n 0, 1) := by decide +kernel
theorem dX8_usesOf_9 : decode cX8_usesOf 9 = .ok (.iconst 1, 1) := by decide +kernel
theorem dX8_usesOf_10 : decode cX8_usesOf 10 = .ok (.invokevirtual 59, 3) := by decide +kernel
theorem dX8_usesOf_13 : decode cX8_usesOf 13 = .ok (.ireturn, 1) := by decide +kernel
theorem dX8_usesOf_14 : decode cX8_usesOf 14 = .ok (.iconst 0, 1) := by decide +kernel
theorem dX8_usesOf_15 : decode cX8_usesOf 15 = .ok (.istore_n 2, 1) := by decide +kernel
theorem dX8_usesOf_16 : decode cX8_usesOf 16 = .ok (.iconst 0, 1) := by decide +kernel
theorem dX8_usesOf_17 : decode cX8_usesOf 17 = .ok (.istore_n 3, 1) := by decide +kernel
theorem dX8_usesOf_18 : decode cX8_usesOf 18 = .ok (.iload_n 3, 1) := by decide +kernel
theorem dX8_usesOf_19 : decode cX8_usesOf 19 = .ok (.aload_n 0, 1) := by decide +kernel
theorem dX8_usesOf_20 : decode cX8_usesOf 20 = .ok (.getfield 17, 3) := by decide +kernel
theorem dX8_usesOf_23 : decode cX8_usesOf 23 = .ok (.bipush 7, 2) := by decide +kernel
theorem dX8_usesOf_25 : decode cX8_usesOf 25 = .ok (.iaload, 1) := by decide +kernel
theorem dX8_usesOf_26 : decode cX8_usesOf 26 = .ok (.if_icmp .ge 21, 3) := by decide +kernel
theorem dX8_usesOf_29 : decode cX8_usesOf 29 = .ok (.aload_n 0, 1) := by decide +kernel
theorem dX8_usesOf_30 : decode cX8_usesOf 30 = .ok (.iload_n 3, 1) := by decide +kernel
theorem dX8_usesOf_31 : decode cX8_usesOf 31 = .ok (.invokevirtual 99, 3) := by decide +kernel
theorem dX8_usesOf_34 : decode cX8_usesOf 34 = .ok (.iload_n 1, 1) := by decide +kernel
theorem dX8_usesOf_35 : decode cX8_usesOf 35 = .ok (.if_icmp .ne 6, 3) := by decide +kernel
theorem dX8_usesOf_38 : decode cX8_usesOf 38 = .ok (.iinc 2 1, 3) := by decide +kernel
theorem dX8_usesOf_41 : decode cX8_usesOf 41 = .ok (.iinc 3 1, 3) := by decide +kernel
theorem dX8_usesOf_44 : decode cX8_usesOf 44 = .ok (.goto (-26), 3) := by decide +kernel
theorem dX8_usesOf_47 : decode cX8_usesOf 47 = .ok (.aload_n 0, 1) := by decide +kernel
theorem dX8_usesOf_48 : decode cX8_usesOf 48 = .ok (.iload_n 2, 1) := by decide +kernel
theorem dX8_usesOf_49 : decode cX8_usesOf 49 = .ok (.invokevirtual 55, 3) := by decide +kernel
theorem dX8_usesOf_52 : decode cX8_usesOf 52 = .ok (.ireturn, 1) := by decide +kernel
set_option maxRecDepth 20000 in
theorem ggX8_onTape_X8_areLetters : GoodIn wsX8_onTape wsX8_areLetters := goodIn_r _ [7, 2, 8, 9, 10, 6, 11, 12, 13, 14, 15, 16, 17, 18, 19, 28, 29, 30, 31, 32, 33, 34, 35, 36, 37, 38, 39, 40, 41, 42, 43, 44, 45, 46, 47, 48, 49, 50, 51, 52, 53, 54] (by decide +kernel) (by decide +kernel)
set_option maxRecDepth 20000 in
theorem gX8_onTape_X8_areLetters : GoodIn wsX8_onTape (wsV RX8 156 RX8 yX8_areLetters wsX8_areLetters) := goodIn_app (goodIn_of _ (by decide +kernel)) ggX8_onTape_X8_areLetters
set_option maxRecDepth 20000 in
theorem ggX8_onTape_X8_longer : GoodIn wsX8_onTape wsX8_longer := goodIn_r _ [23, 16, 24, 25, 26, 6, 27, 28, 29, 30, 31, 32, 33, 34, 35, 36, 37, 38, 39, 40, 41, 42, 43, 44, 45, 46, 47, 48, 49, 50, 51, 52, 53, 54] (by decide +kernel) (by decide +kernel)
set_option maxRecDepth 20000 in
theorem gX8_onTape_X8_longer : GoodIn wsX8_onTape (wsV RX8 138 RX8 yX8_longer wsX8_longer) := goodIn_app (goodIn_of _ (by decide +kernel)) ggX8_onTape_X8_longer
theorem dX8_onTape_0 : decode cX8_onTape 0 = .ok (.aload_n 0, 1) := by decide +kernel
theorem dX8_onTape_1 : decode cX8_onTape 1 = .ok (.getfield 153, 3) := by decide +kernel
theorem dX8_onTape_4 : decode cX8_onTape 4 = .ok (.ifCond .eq 15, 3) := by decide +kernel
theorem dX8_onTape_7 : decode cX8_onTape 7 = .ok (.aload_n 0, 1) := by decide +kernel
theorem dX8_onTape_8 : decode cX8_onTape 8 = .ok (.iconst 0, 1) := by decide +kernel
theorem dX8_onTape_9 : decode cX8_onTape 9 = .ok (.aload_n 0, 1) := by decide +kernel
theorem dX8_onTape_10 : decode cX8_onTape 10 = .ok (.getfield 153, 3) := by decide +kernel
theorem dX8_onTape_13 : decode cX8_onTape 13 = .ok (.invokevirtual 156, 3) := by decide +kernel
theorem dX8_onTape_16 : decode cX8_onTape 16 = .ok (.ifCond .ne 5, 3) := by decide +kernel
theorem dX8_onTape_19 : decode cX8_onTape 19 = .ok (.iconst (-1), 1) := by decide +kernel
theorem dX8_onTape_20 : decode cX8_onTape 20 = .ok (.ireturn, 1) := by decide +kernel
theorem dX8_onTape_21 : decode cX8_onTape 21 = .ok (.aload_n 0, 1) := by decide +kernel
theorem dX8_onTape_22 : decode cX8_onTape 22 = .ok (.getfield 7, 3) := by decide +kernel
theorem dX8_onTape_25 : decode cX8_onTape 25 = .ok (.iconst 0, 1) := by decide +kernel
theorem dX8_onTape_26 : decode cX8_onTape 26 = .ok (.baload, 1) := by decide +kernel
theorem dX8_onTape_27 : decode cX8_onTape 27 = .ok (.bipush 97, 2) := by decide +kernel
theorem dX8_onTape_29 : decode cX8_onTape 29 = .ok (.isub, 1) := by decide +kernel
theorem dX8_onTape_30 : decode cX8_onTape 30 = .ok (.istore_n 1, 1) := by decide +kernel
theorem dX8_onTape_31 : decode cX8_onTape 31 = .ok (.iconst 1, 1) := by decide +kernel
theorem dX8_onTape_32 : decode cX8_onTape 32 = .ok (.istore_n 2, 1) := by decide +kernel
theorem dX8_onTape_33 : decode cX8_onTape 33 = .ok (.iload_n 2, 1) := by decide +kernel
theorem dX8_onTape_34 : decode cX8_onTape 34 = .ok (.aload_n 0, 1) := by decide +kernel
theorem dX8_onTape_35 : decode cX8_onTape 35 = .ok (.getfield 153, 3) := by decide +kernel
theorem dX8_onTape_38 : decode cX8_onTape 38 = .ok (.if_icmp .ge 28, 3) := by decide +kernel
theorem dX8_onTape_41 : decode cX8_onTape 41 = .ok (.iload_n 1, 1) := by decide +kernel
theorem dX8_onTape_42 : decode cX8_onTape 42 = .ok (.ifCond .lt 24, 3) := by decide +kernel
theorem dX8_onTape_45 : decode cX8_onTape 45 = .ok (.aload_n 0, 1) := by decide +kernel
theorem dX8_onTape_46 : decode cX8_onTape 46 = .ok (.iload_n 1, 1) := by decide +kernel
theorem dX8_onTape_47 : decode cX8_onTape 47 = .ok (.aload_n 0, 1) := by decide +kernel
theorem dX8_onTape_48 : decode cX8_onTape 48 = .ok (.getfield 7, 3) := by decide +kernel
theorem dX8_onTape_51 : decode cX8_onTape 51 = .ok (.iload_n 2, 1) := by decide +kernel
theorem dX8_onTape_52 : decode cX8_onTape 52 = .ok (.baload, 1) := by decide +kernel
theorem dX8_onTape_53 : decode cX8_onTape 53 = .ok (.bipush 97, 2) := by decide +kernel
theorem dX8_onTape_55 : decode cX8_onTape 55 = .ok (.isub, 1) := by decide +kernel
theorem dX8_onTape_56 : decode cX8_onTape 56 = .ok (.invokevirtual 138, 3) := by decide +kernel
theorem dX8_onTape_59 : decode cX8_onTape 59 = .ok (.istore_n 1, 1) := by decide +kernel
theorem dX8_onTape_60 : decode cX8_onTape 60 = .ok (.iinc 2 1, 3) := by decide +kernel
theorem dX8_onTape_63 : decode cX8_onTape 63 = .ok (.goto (-30), 3) := by decide +kernel
theorem dX8_onTape_66 : decode cX8_onTape 66 = .ok (.iload_n 1, 1) := by decide +kernel
theorem dX8_onTape_67 : decode cX8_onTape 67 = .ok (.ireturn, 1) := by decide +kernel
set_option maxRecDepth 20000 in
theorem ggX8_findTape_X8_onTape : GoodIn wsX8_findTape wsX8_onTape := goodIn_r _ [5, 6, 7, 8, 9, 10, 4, 11, 12, 13, 14, 15, 16, 17, 18, 19, 20, 21, 22, 23, 24, 25, 26, 27, 28, 29, 30, 31, 41, 42, 43, 44, 45, 46, 47, 48, 49, 50, 51, 52, 53, 54, 55, 56, 57, 58, 59, 60, 61, 62, 63, 64, 65, 66, 67] (by decide +kernel) (by decide +kernel)
set_option maxRecDepth 20000 in
theorem gX8_findTape_X8_onTape : GoodIn wsX8_findTape (wsV RX8 326 RX8 yX8_onTape wsX8_onTape) := goodIn_app (goodIn_of _ (by decide +kernel)) ggX8_findTape_X8_onTape
set_option maxRecDepth 20000 in
theorem ggX8_findTape_X8_throwing : GoodIn wsX8_findTape wsX8_throwing := goodIn_r _ [35, 36, 41, 42, 43, 44, 45, 46, 47, 48, 49, 50, 51, 52, 53, 54, 55, 56, 57, 58, 59, 60, 61, 62, 63, 64, 65, 66, 67] (by decide +kernel) (by decide +kernel)
set_option maxRecDepth 20000 in
theorem gX8_findTape_X8_throwing : GoodIn wsX8_findTape (wsV RX8 59 RX8 yX8_throwing wsX8_throwing) := goodIn_app (goodIn_of _ (by decide +kernel)) ggX8_findTape_X8_throwing
set_option maxRecDepth 20000 in
theorem ggX8_findTape_X8_told : GoodIn wsX8_findTape wsX8_told := goodIn_r _ [40, 36, 41, 42, 43, 44, 45, 46, 47, 48, 49, 50, 51, 52, 53, 54, 55, 56, 57, 58, 59, 60, 61, 62, 63, 64, 65, 66, 67] (by decide +kernel) (by decide +kernel)
set_option maxRecDepth 20000 in
theorem gX8_findTape_X8_told : GoodIn wsX8_findTape (wsV RX8 55 RX8 yX8_told wsX8_told) := goodIn_app (goodIn_of _ (by decide +kernel)) ggX8_findTape_X8_told
theorem dX8_findTape_0 : decode cX8_findTape 0 = .ok (.aload_n 0, 1) := by decide +kernel
theorem dX8_findTape_1 : decode cX8_findTape 1 = .ok (.invokevirtual 326, 3) := by decide +kernel
theorem dX8_findTape_4 : decode cX8_findTape 4 = .ok (.istore_n 1, 1) := by decide +kernel
theorem dX8_findTape_5 : decode cX8_findTape 5 = .ok (.iload_n 1, 1) := by decide +kernel
theorem dX8_findTape_6 : decode cX8_findTape 6 = .ok (.ifCond .ge 9, 3) := by decide +kernel
theorem dX8_findTape_9 : decode cX8_findTape 9 = .ok (.aload_n 0, 1) := by decide +kernel
theorem dX8_findTape_10 : decode cX8_findTape 10 = .ok (.iconst 1, 1) := by decide +kernel
theorem dX8_findTape_11 : decode cX8_findTape 11 = .ok (.invokevirtual 59, 3) := by decide +kernel
theorem dX8_findTape_14 : decode cX8_findTape 14 = .ok (.ireturn, 1) := by decide +kernel
theorem dX8_findTape_15 : decode cX8_findTape 15 = .ok (.aload_n 0, 1) := by decide +kernel
theorem dX8_findTape_16 : decode cX8_findTape 16 = .ok (.iload_n 1, 1) := by decide +kernel
theorem dX8_findTape_17 : decode cX8_findTape 17 = .ok (.invokevirtual 55, 3) := by decide +kernel
theorem dX8_findTape_20 : decode cX8_findTape 20 = .ok (.ireturn, 1) := by decide +kernel
set_option maxRecDepth 20000 in
theorem ggX8_hasPhrase_X8_toldIf : GoodIn wsX8_hasPhrase wsX8_toldIf := goodIn_r _ [6, 7, 8, 9, 10, 11, 12, 13, 14, 15, 16, 17, 18, 19, 20, 21, 22, 23, 24, 25, 26, 27, 28, 29, 30, 31, 32, 33, 34] (by decide +kernel) (by decide +kernel)
set_option maxRecDepth 20000 in
theorem gX8_hasPhrase_X8_toldIf : GoodIn wsX8_hasPhrase (wsV RX8 316 RX8 yX8_toldIf wsX8_toldIf) := goodIn_app (goodIn_of _ (by decide +kernel)) ggX8_hasPhrase_X8_toldIf
theorem dX8_hasPhrase_0 : decode cX8_hasPhrase 0 = .ok (.aload_n 0, 1) := by decide +kernel
theorem dX8_hasPhrase_1 : decode cX8_hasPhrase 1 = .ok (.aload_n 0, 1) := by decide +kernel
theorem dX8_hasPhrase_2 : decode cX8_hasPhrase 2 = .ok (.getfield 17, 3) := by decide +kernel
theorem dX8_hasPhrase_5 : decode cX8_hasPhrase 5 = .ok (.iconst 5, 1) := by decide +kernel
theorem dX8_hasPhrase_6 : decode cX8_hasPhrase 6 = .ok (.iaload, 1) := by decide +kernel
theorem dX8_hasPhrase_7 : decode cX8_hasPhrase 7 = .ok (.ifCond .le 7, 3) := by decide +kernel
theorem dX8_hasPhrase_10 : decode cX8_hasPhrase 10 = .ok (.iconst 1, 1) := by decide +kernel
theorem dX8_hasPhrase_11 : decode cX8_hasPhrase 11 = .ok (.goto 4, 3) := by decide +kernel
theorem dX8_hasPhrase_14 : decode cX8_hasPhrase 14 = .ok (.iconst 0, 1) := by decide +kernel
theorem dX8_hasPhrase_15 : decode cX8_hasPhrase 15 = .ok (.invokevirtual 316, 3) := by decide +kernel
theorem dX8_hasPhrase_18 : decode cX8_hasPhrase 18 = .ok (.ireturn, 1) := by decide +kernel
set_option maxRecDepth 20000 in
theorem ggX8_currentPhrase_X8_throwing : GoodIn wsX8_currentPhrase wsX8_throwing := goodIn_r _ [6, 7, 12, 13, 14, 15, 16, 17, 18, 19, 20, 21, 22, 23, 24, 25, 26, 27, 28, 29, 30, 31, 32, 33, 34, 35, 36, 37, 38] (by decide +kernel) (by decide +kernel)
set_option maxRecDepth 20000 in
theorem gX8_currentPhrase_X8_throwing : GoodIn wsX8_currentPhrase (wsV RX8 59 RX8 yX8_throwing wsX8_throwing) := goodIn_app (goodIn_of _ (by decide +kernel)) ggX8_currentPhrase_X8_throwing
set_option maxRecDepth 20000 in
theorem ggX8_currentPhrase_X8_told : GoodIn wsX8_currentPhrase wsX8_told := goodIn_r _ [11, 7, 12, 13, 14, 15, 16, 17, 18, 19, 20, 21, 22, 23, 24, 25, 26, 27, 28, 29, 30, 31, 32, 33, 34, 35, 36, 37, 38] (by decide +kernel) (by decide +kernel)
set_option maxRecDepth 20000 in
theorem gX8_currentPhrase_X8_told : GoodIn wsX8_currentPhrase (wsV RX8 55 RX8 yX8_told wsX8_told) := goodIn_app (goodIn_of _ (by decide +kernel)) ggX8_currentPhrase_X8_told
theorem dX8_currentPhrase_0 : decode cX8_currentPhrase 0 = .ok (.aload_n 0, 1) := by decide +kernel
theorem dX8_currentPhrase_1 : decode cX8_currentPhrase 1 = .ok (.getfield 17, 3) := by decide +kernel
theorem dX8_currentPhrase_4 : decode cX8_currentPhrase 4 = .ok (.iconst 5, 1) := by decide +kernel
theorem dX8_currentPhrase_5 : decode cX8_currentPhrase 5 = .ok (.iaload, 1) := by decide +kernel
theorem dX8_currentPhrase_6 : decode cX8_currentPhrase 6 = .ok (.ifCond .ne 9, 3) := by decide +kernel
theorem dX8_currentPhrase_9 : decode cX8_currentPhrase 9 = .ok (.aload_n 0, 1) := by decide +kernel
theorem dX8_currentPhrase_10 : decode cX8_currentPhrase 10 = .ok (.iconst 1, 1) := by decide +kernel
theorem dX8_currentPhrase_11 : decode cX8_currentPhrase 11 = .ok (.invokevirtual 59, 3) := by decide +kernel
theorem dX8_currentPhrase_14 : decode cX8_currentPhrase 14 = .ok (.ireturn, 1) := by decide +kernel
theorem dX8_currentPhrase_15 : decode cX8_currentPhrase 15 = .ok (.aload_n 0, 1) := by decide +kernel
theorem dX8_currentPhrase_16 : decode cX8_currentPhrase 16 = .ok (.aload_n 0, 1) := by decide +kernel
theorem dX8_currentPhrase_17 : decode cX8_currentPhrase 17 = .ok (.getfield 17, 3) := by decide +kernel
theorem dX8_currentPhrase_20 : decode cX8_currentPhrase 20 = .ok (.iconst 5, 1) := by decide +kernel
theorem dX8_currentPhrase_21 : decode cX8_currentPhrase 21 = .ok (.iaload, 1) := by decide +kernel
theorem dX8_currentPhrase_22 : decode cX8_currentPhrase 22 = .ok (.iconst 1, 1) := by decide +kernel
theorem dX8_currentPhrase_23 : decode cX8_currentPhrase 23 = .ok (.isub, 1) := by decide +kernel
theorem dX8_currentPhrase_24 : decode cX8_currentPhrase 24 = .ok (.invokevirtual 55, 3) := by decide +kernel
theorem dX8_currentPhrase_27 : decode cX8_currentPhrase 27 = .ok (.ireturn, 1) := by decide +kernel
set_option maxRecDepth 20000 in
theorem ggX8_wouldEnd_X8_longer : GoodIn wsX8_wouldEnd wsX8_longer := goodIn_r _ [6, 1, 7, 8, 9, 5, 10, 11, 12, 13, 14, 15, 16, 17, 18, 19, 20, 21, 22, 23, 24, 25, 26, 27, 28, 29, 30, 31, 32, 33, 34, 35, 36, 37] (by decide +kernel) (by decide +kernel)
set_option maxRecDepth 20000 in
theorem gX8_wouldEnd_X8_longer : GoodIn wsX8_wouldEnd (wsV RX8 138 RX8 yX8_longer wsX8_longer) := goodIn_app (goodIn_of _ (by decide +kernel)) ggX8_wouldEnd_X8_longer
theorem dX8_wouldEnd_0 : decode cX8_wouldEnd 0 = .ok (.aload_n 0, 1) := by decide +kernel
theorem dX8_wouldEnd_1 : decode cX8_wouldEnd 1 = .ok (.getfield 17, 3) := by decide +kernel
theorem dX8_wouldEnd_4 : decode cX8_wouldEnd 4 = .ok (.iconst 5, 1) := by decide +kernel
theorem dX8_wouldEnd_5 : decode cX8_wouldEnd 5 = .ok (.iaload, 1) := by decide +kernel
theorem dX8_wouldEnd_6 : decode cX8_wouldEnd 6 = .ok (.iconst 1, 1) := by decide +kernel
theorem dX8_wouldEnd_7 : decode cX8_wouldEnd 7 = .ok (.isub, 1) := by decide +kernel
theorem dX8_wouldEnd_8 : decode cX8_wouldEnd 8 = .ok (.istore_n 2, 1) := by decide +kernel
theorem dX8_wouldEnd_9 : decode cX8_wouldEnd 9 = .ok (.iload_n 2, 1) := by decide +kernel
theorem dX8_wouldEnd_10 : decode cX8_wouldEnd 10 = .ok (.ifCond .ge 5, 3) := by decide +kernel
theorem dX8_wouldEnd_13 : decode cX8_wouldEnd 13 = .ok (.iconst 0, 1) := by decide +kernel
theorem dX8_wouldEnd_14 : decode cX8_wouldEnd 14 = .ok (.ireturn, 1) := by decide +kernel
theorem dX8_wouldEnd_15 : decode cX8_wouldEnd 15 = .ok (.aload_n 0, 1) := by decide +kernel
theorem dX8_wouldEnd_16 : decode cX8_wouldEnd 16 = .ok (.iload_n 2, 1) := by decide +kernel
theorem dX8_wouldEnd_17 : decode cX8_wouldEnd 17 = .ok (.iload_n 1, 1) := by decide +kernel
theorem dX8_wouldEnd_18 : decode cX8_wouldEnd 18 = .ok (.invokevirtual 138, 3) := by decide +kernel
theorem dX8_wouldEnd_21 : decode cX8_wouldEnd 21 = .ok (.ifCond .ge 7, 3) := by decide +kernel
theorem dX8_wouldEnd_24 : decode cX8_wouldEnd 24 = .ok (.iconst 1, 1) := by decide +kernel
theorem dX8_wouldEnd_25 : decode cX8_wouldEnd 25 = .ok (.goto 4, 3) := by decide +kernel
theorem dX8_wouldEnd_28 : decode cX8_wouldEnd 28 = .ok (.iconst 0, 1) := by decide +kernel
theorem dX8_wouldEnd_29 : decode cX8_wouldEnd 29 = .ok (.ireturn, 1) := by decide +kernel
set_option maxRecDepth 20000 in
theorem ggX8_wouldClear_X8_isAllFull : GoodIn wsX8_wouldClear wsX8_isAllFull := goodIn_r _ [6, 1, 7, 8, 9, 5, 10, 54, 55, 56, 57, 58, 59, 60, 61, 62, 63, 64, 65, 66, 67, 68, 69, 70, 71, 72, 73, 74, 75, 76, 77, 78, 79, 80] (by decide +kernel) (by decide +kernel)
set_option maxRecDepth 20000 in
theorem gX8_wouldClear_X8_isAllFull : GoodIn wsX8_wouldClear (wsV RX8 121 RX8 yX8_isAllFull wsX8_isAllFull) := goodIn_app (goodIn_of _ (by decide +kernel)) ggX8_wouldClear_X8_isAllFull
set_option maxRecDepth 20000 in
theorem ggX8_wouldClear_X8_bitsSince : GoodIn wsX8_wouldClear wsX8_bitsSince := goodIn_r _ [14, 1, 15, 16, 17, 5, 18, 19, 20, 21, 22, 54, 55, 56, 57, 58, 59, 60, 61, 62, 63, 64, 65, 66, 67, 68, 69, 70, 71, 72, 73, 74, 75, 76, 77, 78, 79, 80] (by decide +kernel) (by decide +kernel)
set_option maxRecDepth 20000 in
theorem gX8_wouldClear_X8_bitsSince : GoodIn wsX8_wouldClear (wsV RX8 111 RX8 yX8_bitsSince wsX8_bitsSince) := goodIn_app (goodIn_of _ (by decide +kernel)) ggX8_wouldClear_X8_bitsSince
set_option maxRecDepth 20000 in
theorem ggX8_wouldClear_X8_bitsFor : GoodIn wsX8_wouldClear wsX8_bitsFor := goodIn_r _ [25] (by decide +kernel) (by decide +kernel)
set_option maxRecDepth 20000 in
theorem gX8_wouldClear_X8_bitsFor : GoodIn wsX8_wouldClear (va_wsS RX8 89 yX8_bitsFor wsX8_bitsFor) := goodIn_app (goodIn_of _ (by decide +kernel)) ggX8_wouldClear_X8_bitsFor
set_option maxRecDepth 20000 in
theorem ggX8_wouldClear_X8_symbolsSince : GoodIn wsX8_wouldClear wsX8_symbolsSince := goodIn_r _ [29, 1, 30, 31, 32, 5, 33, 34, 35, 36, 37, 38, 39, 40, 41, 42, 43, 44, 45, 54, 55, 56, 57, 58, 59, 60, 61, 62, 63, 64, 65, 66, 67, 68, 69, 70, 71, 72, 73, 74, 75, 76, 77, 78, 79, 80] (by decide +kernel) (by decide +kernel)
set_option maxRecDepth 20000 in
theorem gX8_wouldClear_X8_symbolsSince : GoodIn wsX8_wouldClear (wsV RX8 114 RX8 yX8_symbolsSince wsX8_symbolsSince) := goodIn_app (goodIn_of _ (by decide +kernel)) ggX8_wouldClear_X8_symbolsSince
set_option maxRecDepth 20000 in
theorem ggX8_wouldClear_X8_lengthOf : GoodIn wsX8_wouldClear wsX8_lengthOf := goodIn_r _ [37, 1, 38, 39, 40, 5, 41, 42, 43, 44, 45, 54, 55, 56, 57, 58, 59, 60, 61, 62, 63, 64, 65, 66, 67, 68, 69, 70, 71, 72, 73, 74, 75, 76, 77, 78, 79, 80] (by decide +kernel) (by decide +kernel)
set_option maxRecDepth 20000 in
theorem gX8_wouldClear_X8_lengthOf : GoodIn wsX8_wouldClear (wsV RX8 86 RX8 yX8_lengthOf wsX8_lengthOf) := goodIn_app (goodIn_of _ (by decide +kernel)) ggX8_wouldClear_X8_lengthOf
set_option maxRecDepth 20000 in
theorem ggX8_wouldClear_X8_percentOf : GoodIn wsX8_wouldClear wsX8_percentOf := goodIn_r _ [49, 50, 51, 52, 5, 53, 1, 23, 24, 25, 54, 55, 56, 57, 58, 59, 60, 61, 62, 63, 64, 65, 66, 67, 68, 69, 70, 71, 72, 73, 74, 75, 76, 77, 78, 79, 80] (by decide +kernel) (by decide +kernel)
set_option maxRecDepth 20000 in
theorem gX8_wouldClear_X8_percentOf : GoodIn wsX8_wouldClear (wsV RX8 117 RX8 yX8_percentOf wsX8_percentOf) := goodIn_app (goodIn_of _ (by decide +kernel)) ggX8_wouldClear_X8_percentOf
theorem dX8_wouldClear_0 : decode cX8_wouldClear 0 = .ok (.aload_n 0, 1) := by decide +kernel
theorem dX8_wouldClear_1 : decode cX8_wouldClear 1 = .ok (.invokevirtual 121, 3) := by decide +kernel
theorem dX8_wouldClear_4 : decode cX8_wouldClear 4 = .ok (.ifCond .ne 5, 3) := by decide +kernel
theorem dX8_wouldClear_7 : decode cX8_wouldClear 7 = .ok (.iconst 0, 1) := by decide +kernel
theorem dX8_wouldClear_8 : decode cX8_wouldClear 8 = .ok (.ireturn, 1) := by decide +kernel
theorem dX8_wouldClear_9 : decode cX8_wouldClear 9 = .ok (.aload_n 0, 1) := by decide +kernel
theorem dX8_wouldClear_10 : decode cX8_wouldClear 10 = .ok (.getfield 17, 3) := by decide +kernel
theorem dX8_wouldClear_13 : decode cX8_wouldClear 13 = .ok (.iconst 2, 1) := by decide +kernel
theorem dX8_wouldClear_14 : decode cX8_wouldClear 14 = .ok (.iaload, 1) := by decide +kernel
theorem dX8_wouldClear_15 : decode cX8_wouldClear 15 = .ok (.iconst 2, 1) := by decide +kernel
theorem dX8_wouldClear_16 : decode cX8_wouldClear 16 = .ok (.if_icmp .eq 19, 3) := by decide +kernel
theorem dX8_wouldClear_19 : decode cX8_wouldClear 19 = .ok (.aload_n 0, 1) := by decide +kernel
theorem dX8_wouldClear_20 : decode cX8_wouldClear 20 = .ok (.getfield 17, 3) := by decide +kernel
theorem dX8_wouldClear_23 : decode cX8_wouldClear 23 = .ok (.iconst 2, 1) := by decide +kernel
theorem dX8_wouldClear_24 : decode cX8_wouldClear 24 = .ok (.iaload, 1) := by decide +kernel
theorem dX8_wouldClear_25 : decode cX8_wouldClear 25 = .ok (.iconst 1, 1) := by decide +kernel
theorem dX8_wouldClear_26 : decode cX8_wouldClear 26 = .ok (.if_icmp .ne 7, 3) := by decide +kernel
theorem dX8_wouldClear_29 : decode cX8_wouldClear 29 = .ok (.iconst 1, 1) := by decide +kernel
theorem dX8_wouldClear_30 : decode cX8_wouldClear 30 = .ok (.goto 4, 3) := by decide +kernel
theorem dX8_wouldClear_33 : decode cX8_wouldClear 33 = .ok (.iconst 0, 1) := by decide +kernel
theorem dX8_wouldClear_34 : decode cX8_wouldClear 34 = .ok (.ireturn, 1) := by decide +kernel
theorem dX8_wouldClear_35 : decode cX8_wouldClear 35 = .ok (.aload_n 0, 1) := by decide +kernel
theorem dX8_wouldClear_36 : decode cX8_wouldClear 36 = .ok (.invokevirtual 111, 3) := by decide +kernel
theorem dX8_wouldClear_39 : decode cX8_wouldClear 39 = .ok (.aload_n 0, 1) := by decide +kernel
theorem dX8_wouldClear_40 : decode cX8_wouldClear 40 = .ok (.getfield 17, 3) := by decide +kernel
theorem dX8_wouldClear_43 : decode cX8_wouldClear 43 = .ok (.iconst 4, 1) := by decide +kernel
theorem dX8_wouldClear_44 : decode cX8_wouldClear 44 = .ok (.iaload, 1) := by decide +kernel
theorem dX8_wouldClear_45 : decode cX8_wouldClear 45 = .ok (.invokestatic 89, 3) := by decide +kernel
theorem dX8_wouldClear_48 : decode cX8_wouldClear 48 = .ok (.iadd, 1) := by decide +kernel
theorem dX8_wouldClear_49 : decode cX8_wouldClear 49 = .ok (.istore_n 1, 1) := by decide +kernel
theorem dX8_wouldClear_50 : decode cX8_wouldClear 50 = .ok (.aload_n 0, 1) := by decide +kernel
theorem dX8_wouldClear_51 : decode cX8_wouldClear 51 = .ok (.invokevirtual 114, 3) := by decide +kernel
theorem dX8_wouldClear_54 : decode cX8_wouldClear 54 = .ok (.aload_n 0, 1) := by decide +kernel
theorem dX8_wouldClear_55 : decode cX8_wouldClear 55 = .ok (.aload_n 0, 1) := by decide +kernel
theorem dX8_wouldClear_56 : decode cX8_wouldClear 56 = .ok (.getfield 17, 3) := by decide +kernel
theorem dX8_wouldClear_59 : decode cX8_wouldClear 59 = .ok (.iconst 5, 1) := by decide +kernel
theorem dX8_wouldClear_60 : decode cX8_wouldClear 60 = .ok (.iaload, 1) := by decide +kernel
theorem dX8_wouldClear_61 : decode cX8_wouldClear 61 = .ok (.iconst 1, 1) := by decide +kernel
theorem dX8_wouldClear_62 : decode cX8_wouldClear 62 = .ok (.isub, 1) := by decide +kernel
theorem dX8_wouldClear_63 : decode cX8_wouldClear 63 = .ok (.invokevirtual 86, 3) := by decide +kernel
theorem dX8_wouldClear_66 : decode cX8_wouldClear 66 = .ok (.iadd, 1) := by decide +kernel
theorem dX8_wouldClear_67 : decode cX8_wouldClear 67 = .ok (.istore_n 2, 1) := by decide +kernel
theorem dX8_wouldClear_68 : decode cX8_wouldClear 68 = .ok (.aload_n 0, 1) := by decide +kernel
theorem dX8_wouldClear_69 : decode cX8_wouldClear 69 = .ok (.iload_n 1, 1) := by decide +kernel
theorem dX8_wouldClear_70 : decode cX8_wouldClear 70 = .ok (.iload_n 2, 1) := by decide +kernel
theorem dX8_wouldClear_71 : decode cX8_wouldClear 71 = .ok (.invokevirtual 117, 3) := by decide +kernel
theorem dX8_wouldClear_74 : decode cX8_wouldClear 74 = .ok (.aload_n 0, 1) := by decide +kernel
theorem dX8_wouldClear_75 : decode cX8_wouldClear 75 = .ok (.getfield 17, 3) := by decide +kernel
theorem dX8_wouldClear_78 : decode cX8_wouldClear 78 = .ok (.iconst 3, 1) := by decide +kernel
theorem dX8_wouldClear_79 : decode cX8_wouldClear 79 = .ok (.iaload, 1) := by decide +kernel
theorem dX8_wouldClear_80 : decode cX8_wouldClear 80 = .ok (.if_icmp .le 7, 3) := by decide +kernel
theorem dX8_wouldClear_83 : decode cX8_wouldClear 83 = .ok (.iconst 1, 1) := by decide +kernel
theorem dX8_wouldClear_84 : decode cX8_wouldClear 84 = .ok (.goto 4, 3) := by decide +kernel
theorem dX8_wouldClear_87 : decode cX8_wouldClear 87 = .ok (.iconst 0, 1) := by decide +kernel
theorem dX8_wouldClear_88 : decode cX8_wouldClear 88 = .ok (.ireturn, 1) := by decide +kernel
set_option maxRecDepth 20000 in
theorem ggX8_clearsBy_X8_wouldEnd : GoodIn wsX8_clearsBy wsX8_wouldEnd := goodIn_r _ [5, 6, 7, 8, 9, 4, 10, 11, 12, 13, 14, 66, 67, 68, 69, 70, 71, 72, 73, 74, 75, 76, 77, 78, 79, 80, 81, 82, 83, 84, 85, 86, 87, 88, 89, 90, 91, 92] (by decide +kernel) (by decide +kernel)
set_option maxRecDepth 20000 in
theorem gX8_clearsBy_X8_wouldEnd : GoodIn wsX8_clearsBy (wsV RX8 329 RX8 yX8_wouldEnd wsX8_wouldEnd) := goodIn_app (goodIn_of _ (by decide +kernel)) ggX8_clearsBy_X8_wouldEnd
set_option maxRecDepth 20000 in
theorem ggX8_clearsBy_X8_wouldClear : GoodIn wsX8_clearsBy wsX8_wouldClear := goodIn_r _ [18, 6, 19, 20, 21, 4, 22, 23, 24, 25, 26, 27, 28, 29, 30, 31, 32, 33, 34, 35, 36, 37, 38, 39, 40, 41, 42, 43, 44, 45, 46, 47, 48, 49, 50, 51, 52, 53, 11, 12, 13, 14, 54, 55, 56, 57, 58, 59, 60, 61, 62, 63, 64, 65, 66, 67, 68, 69, 70, 71, 72, 73, 74, 75, 76, 77, 78, 79, 80, 81, 82, 83, 84, 85, 86, 87, 88, 89, 90, 91, 92] (by decide +kernel) (by decide +kernel)
set_option maxRecDepth 20000 in
theorem gX8_clearsBy_X8_wouldClear : GoodIn wsX8_clearsBy (wsV RX8 332 RX8 yX8_wouldClear wsX8_wouldClear) := goodIn_app (goodIn_of _ (by decide +kernel)) ggX8_clearsBy_X8_wouldClear
theorem dX8_clearsBy_0 : decode cX8_clearsBy 0 = .ok (.aload_n 0, 1) := by decide +kernel
theorem dX8_clearsBy_1 : decode cX8_clearsBy 1 = .ok (.iload_n 1, 1) := by decide +kernel
theorem dX8_clearsBy_2 : decode cX8_clearsBy 2 = .ok (.invokevirtual 329, 3) := by decide +kernel
theorem dX8_clearsBy_5 : decode cX8_clearsBy 5 = .ok (.ifCond .ne 5, 3) := by decide +kernel
theorem dX8_clearsBy_8 : decode cX8_clearsBy 8 = .ok (.iconst 0, 1) := by decide +kernel
theorem dX8_clearsBy_9 : decode cX8_clearsBy 9 = .ok (.ireturn, 1) := by decide +kernel
theorem dX8_clearsBy_10 : decode cX8_clearsBy 10 = .ok (.aload_n 0, 1) := by decide +kernel
theorem dX8_clearsBy_11 : decode cX8_clearsBy 11 = .ok (.invokevirtual 332, 3) := by decide +kernel
theorem dX8_clearsBy_14 : decode cX8_clearsBy 14 = .ok (.ifCond .eq 7, 3) := by decide +kernel
theorem dX8_clearsBy_17 : decode cX8_clearsBy 17 = .ok (.iconst 1, 1) := by decide +kernel
theorem dX8_clearsBy_18 : decode cX8_clearsBy 18 = .ok (.goto 4, 3) := by decide +kernel
theorem dX8_clearsBy_21 : decode cX8_clearsBy 21 = .ok (.iconst 0, 1) := by decide +kernel
theorem dX8_clearsBy_22 : decode cX8_clearsBy 22 = .ok (.ireturn, 1) := by decide +kernel
set_option maxRecDepth 20000 in
theorem ggX8_codesBy_X8_wouldEnd : GoodIn wsX8_codesBy wsX8_wouldEnd := goodIn_r _ [5, 6, 7, 8, 9, 4, 10, 11, 12, 13, 14, 70, 71, 72, 73, 74, 75, 76, 77, 78, 79, 80, 81, 82, 83, 84, 85, 86, 87, 88, 89, 90, 91, 92, 93, 94, 95, 96] (by decide +kernel) (by decide +kernel)
set_option maxRecDepth 20000 in
theorem gX8_codesBy_X8_wouldEnd : GoodIn wsX8_codesBy (wsV RX8 329 RX8 yX8_wouldEnd wsX8_wouldEnd) := goodIn_app (goodIn_of _ (by decide +kernel)) ggX8_codesBy_X8_wouldEnd
set_option maxRecDepth 20000 in
theorem ggX8_codesBy_X8_clearsBy : GoodIn wsX8_codesBy wsX8_clearsBy := goodIn_r _ [18, 1, 2, 3, 4, 5, 6, 7, 8, 9, 10, 11, 12, 13, 14, 19, 20, 21, 22, 23, 24, 25, 26, 27, 28, 29, 30, 31, 32, 33, 34, 35, 36, 37, 38, 39, 40, 41, 42, 43, 44, 45, 46, 47, 48, 49, 50, 51, 52, 53, 54, 55, 56, 57, 58, 59, 60, 61, 62, 63, 64, 65, 66, 67, 68, 69, 70, 71, 72, 73, 74, 75, 76, 77, 78, 79, 80, 81, 82, 83, 84, 85, 86, 87, 88, 89, 90, 91, 92, 93, 94, 95, 96] (by decide +kernel) (by decide +kernel)
set_option maxRecDepth 20000 in
theorem gX8_codesBy_X8_clearsBy : GoodIn wsX8_codesBy (wsV RX8 335 RX8 yX8_clearsBy wsX8_clearsBy) := goodIn_app (goodIn_of _ (by decide +kernel)) ggX8_codesBy_X8_clearsBy
theorem dX8_codesBy_0 : decode cX8_codesBy 0 = .ok (.aload_n 0, 1) := by decide +kernel
theorem dX8_codesBy_1 : decode cX8_codesBy 1 = .ok (.iload_n 1, 1) := by decide +kernel
theorem dX8_codesBy_2 : decode cX8_codesBy 2 = .ok (.invokevirtual 329, 3) := by decide +kernel
theorem dX8_codesBy_5 : decode cX8_codesBy 5 = .ok (.ifCond .ne 5, 3) := by decide +kernel
theorem dX8_codesBy_8 : decode cX8_codesBy 8 = .ok (.iconst 0, 1) := by decide +kernel
theorem dX8_codesBy_9 : decode cX8_codesBy 9 = .ok (.ireturn, 1) := by decide +kernel
theorem dX8_codesBy_10 : decode cX8_codesBy 10 = .ok (.iconst 1, 1) := by decide +kernel
theorem dX8_codesBy_11 : decode cX8_codesBy 11 = .ok (.aload_n 0, 1) := by decide +kernel
theorem dX8_codesBy_12 : decode cX8_codesBy 12 = .ok (.iload_n 1, 1) := by decide +kernel
theorem dX8_codesBy_13 : decode cX8_codesBy 13 = .ok (.invokevirtual 335, 3) := by decide +kernel
theorem dX8_codesBy_16 : decode cX8_codesBy 16 = .ok (.iadd, 1) := by decide +kernel
theorem dX8_codesBy_17 : decode cX8_codesBy 17 = .ok (.ireturn, 1) := by decide +kernel
set_option maxRecDepth 20000 in
theorem ggX8_codesIfEncoded_X8_isSymbol : GoodIn wsX8_codesIfEncoded wsX8_isSymbol := goodIn_r _ [5, 6, 7, 8, 4, 9, 90, 91, 92, 93, 94, 95, 96, 97, 98, 99, 100, 101, 102, 103, 104, 105, 106, 107, 108, 109, 110, 111, 112, 113, 114, 115, 116] (by decide +kernel) (by decide +kernel)
set_option maxRecDepth 20000 in
theorem gX8_codesIfEncoded_X8_isSymbol : GoodIn wsX8_codesIfEncoded (wsV RX8 144 RX8 yX8_isSymbol wsX8_isSymbol) := goodIn_app (goodIn_of _ (by decide +kernel)) ggX8_codesIfEncoded_X8_isSymbol
set_option maxRecDepth 20000 in
theorem ggX8_codesIfEncoded_X8_throwing : GoodIn wsX8_codesIfEncoded wsX8_throwing := goodIn_r _ [13, 14, 90, 91, 92, 93, 94, 95, 96, 97, 98, 99, 100, 101, 102, 103, 104, 105, 106, 107, 108, 109, 110, 111, 112, 113, 114, 115, 116] (by decide +kernel) (by decide +kernel)
set_option maxRecDepth 20000 in
theorem gX8_codesIfEncoded_X8_throwing : GoodIn wsX8_codesIfEncoded (wsV RX8 59 RX8 yX8_throwing wsX8_throwing) := goodIn_app (goodIn_of _ (by decide +kernel)) ggX8_codesIfEncoded_X8_throwing
set_option maxRecDepth 20000 in
theorem ggX8_codesIfEncoded_X8_codesBy : GoodIn wsX8_codesIfEncoded wsX8_codesBy := goodIn_r _ [18, 19, 20, 21, 4, 22, 6, 23, 24, 25, 26, 27, 28, 29, 30, 31, 32, 33, 34, 35, 36, 37, 38, 39, 40, 41, 42, 43, 44, 45, 46, 47, 48, 49, 50, 51, 52, 53, 54, 55, 56, 57, 58, 59, 60, 61, 62, 63, 64, 65, 66, 67, 68, 69, 70, 71, 72, 73, 74, 75, 76, 77, 78, 79, 80, 81, 82, 83, 84, 85, 90, 91, 92, 93, 94, 95, 96, 97, 98, 99, 100, 101, 102, 103, 104, 105, 106, 107, 108, 109, 110, 111, 112, 113, 114, 115, 116] (by decide +kernel) (by decide +kernel)
set_option maxRecDepth 20000 in
theorem gX8_codesIfEncoded_X8_codesBy : GoodIn wsX8_codesIfEncoded (wsV RX8 338 RX8 yX8_codesBy wsX8_codesBy) := goodIn_app (goodIn_of _ (by decide +kernel)) ggX8_codesIfEncoded_X8_codesBy
set_option maxRecDepth 20000 in
theorem ggX8_codesIfEncoded_X8_told : GoodIn wsX8_codesIfEncoded wsX8_told := goodIn_r _ [89, 14, 90, 91, 92, 93, 94, 95, 96, 97, 98, 99, 100, 101, 102, 103, 104, 105, 106, 107, 108, 109, 110, 111, 112, 113, 114, 115, 116] (by decide +kernel) (by decide +kernel)
set_option maxRecDepth 20000 in
theorem gX8_codesIfEncoded_X8_told : GoodIn wsX8_codesIfEncoded (wsV RX8 55 RX8 yX8_told wsX8_told) := goodIn_app (goodIn_of _ (by decide +kernel)) ggX8_codesIfEncoded_X8_told
theorem dX8_codesIfEncoded_0 : decode cX8_codesIfEncoded 0 = .ok (.aload_n 0, 1) := by decide +kernel
theorem dX8_codesIfEncoded_1 : decode cX8_codesIfEncoded 1 = .ok (.iload_n 1, 1) := by decide +kernel
theorem dX8_codesIfEncoded_2 : decode cX8_codesIfEncoded 2 = .ok (.invokevirtual 144, 3) := by decide +kernel
theorem dX8_codesIfEncoded_5 : decode cX8_codesIfEncoded 5 = .ok (.ifCond .ne 9, 3) := by decide +kernel
theorem dX8_codesIfEncoded_8 : decode cX8_codesIfEncoded 8 = .ok (.aload_n 0, 1) := by decide +kernel
theorem dX8_codesIfEncoded_9 : decode cX8_codesIfEncoded 9 = .ok (.iconst 1, 1) := by decide +kernel
theorem dX8_codesIfEncoded_10 : decode cX8_codesIfEncoded 10 = .ok (.invokevirtual 59, 3) := by decide +kernel
theorem dX8_codesIfEncoded_13 : decode cX8_codesIfEncoded 13 = .ok (.ireturn, 1) := by decide +kernel
theorem dX8_codesIfEncoded_14 : decode cX8_codesIfEncoded 14 = .ok (.aload_n 0, 1) := by decide +kernel
theorem dX8_codesIfEncoded_15 : decode cX8_codesIfEncoded 15 = .ok (.aload_n 0, 1) := by decide +kernel
theorem dX8_codesIfEncoded_16 : decode cX8_codesIfEncoded 16 = .ok (.iload_n 1, 1) := by decide +kernel
theorem dX8_codesIfEncoded_17 : decode cX8_codesIfEncoded 17 = .ok (.invokevirtual 338, 3) := by decide +kernel
theorem dX8_codesIfEncoded_20 : decode cX8_codesIfEncoded 20 = .ok (.invokevirtual 55, 3) := by decide +kernel
theorem dX8_codesIfEncoded_23 : decode cX8_codesIfEncoded 23 = .ok (.ireturn, 1) := by decide +kernel
set_option maxRecDepth 20000 in
theorem ggX8_clearsIfEncoded_X8_isSymbol : GoodIn wsX8_clearsIfEncoded wsX8_isSymbol := goodIn_r _ [5, 6, 7, 8, 4, 9, 86, 87, 88, 89, 90, 91, 92, 93, 94, 95, 96, 97, 98, 99, 100, 101, 102, 103, 104, 105, 106, 107, 108, 109, 110, 111, 112] (by decide +kernel) (by decide +kernel)
set_option maxRecDepth 20000 in
theorem gX8_clearsIfEncoded_X8_isSymbol : GoodIn wsX8_clearsIfEncoded (wsV RX8 144 RX8 yX8_isSymbol wsX8_isSymbol) := goodIn_app (goodIn_of _ (by decide +kernel)) ggX8_clearsIfEncoded_X8_isSymbol
set_option maxRecDepth 20000 in
theorem ggX8_clearsIfEncoded_X8_throwing : GoodIn wsX8_clearsIfEncoded wsX8_throwing := goodIn_r _ [13, 14, 86, 87, 88, 89, 90, 91, 92, 93, 94, 95, 96, 97, 98, 99, 100, 101, 102, 103, 104, 105, 106, 107, 108, 109, 110, 111, 112] (by decide +kernel) (by decide +kernel)
set_option maxRecDepth 20000 in
theorem gX8_clearsIfEncoded_X8_throwing : GoodIn wsX8_clearsIfEncoded (wsV RX8 59 RX8 yX8_throwing wsX8_throwing) := goodIn_app (goodIn_of _ (by decide +kernel)) ggX8_clearsIfEncoded_X8_throwing
set_option maxRecDepth 20000 in
theorem ggX8_clearsIfEncoded_X8_clearsBy : GoodIn wsX8_clearsIfEncoded wsX8_clearsBy := goodIn_r _ [18, 19, 20, 21, 4, 22, 6, 23, 24, 25, 26, 27, 28, 29, 30, 31, 32, 33, 34, 35, 36, 37, 38, 39, 40, 41, 42, 43, 44, 45, 46, 47, 48, 49, 50, 51, 52, 53, 54, 55, 56, 57, 58, 59, 60, 61, 62, 63, 64, 65, 66, 67, 68, 69, 70, 71, 72, 73, 74, 75, 76, 77, 78, 79, 80, 81, 86, 87, 88, 89, 90, 91, 92, 93, 94, 95, 96, 97, 98, 99, 100, 101, 102, 103, 104, 105, 106, 107, 108, 109, 110, 111, 112] (by decide +kernel) (by decide +kernel)
set_option maxRecDepth 20000 in
theorem gX8_clearsIfEncoded_X8_clearsBy : GoodIn wsX8_clearsIfEncoded (wsV RX8 335 RX8 yX8_clearsBy wsX8_clearsBy) := goodIn_app (goodIn_of _ (by decide +kernel)) ggX8_clearsIfEncoded_X8_clearsBy
set_option maxRecDepth 20000 in
theorem ggX8_clearsIfEncoded_X8_told : GoodIn wsX8_clearsIfEncoded wsX8_told := goodIn_r _ [85, 14, 86, 87, 88, 89, 90, 91, 92, 93, 94, 95, 96, 97, 98, 99, 100, 101, 102, 103, 104, 105, 106, 107, 108, 109, 110, 111, 112] (by decide +kernel) (by decide +kernel)
set_option maxRecDepth 20000 in
theorem gX8_clearsIfEncoded_X8_told : GoodIn wsX8_clearsIfEncoded (wsV RX8 55 RX8 yX8_told wsX8_told) := goodIn_app (goodIn_of _ (by decide +kernel)) ggX8_clearsIfEncoded_X8_told
theorem dX8_clearsIfEncoded_0 : decode cX8_clearsIfEncoded 0 = .ok (.aload_n 0, 1) := by decide +kernel
theorem dX8_clearsIfEncoded_1 : decode cX8_clearsIfEncoded 1 = .ok (.iload_n 1, 1) := by decide +kernel
theorem dX8_clearsIfEncoded_2 : decode cX8_clearsIfEncoded 2 = .ok (.invokevirtual 144, 3) := by decide +kernel
theorem dX8_clearsIfEncoded_5 : decode cX8_clearsIfEncoded 5 = .ok (.ifCond .ne 9, 3) := by decide +kernel
theorem dX8_clearsIfEncoded_8 : decode cX8_clearsIfEncoded 8 = .ok (.aload_n 0, 1) := by decide +kernel
theorem dX8_clearsIfEncoded_9 : decode cX8_clearsIfEncoded 9 = .ok (.iconst 1, 1) := by decide +kernel
theorem dX8_clearsIfEncoded_10 : decode cX8_clearsIfEncoded 10 = .ok (.invokevirtual 59, 3) := by decide +kernel
theorem dX8_clearsIfEncoded_13 : decode cX8_clearsIfEncoded 13 = .ok (.ireturn, 1) := by decide +kernel
theorem dX8_clearsIfEncoded_14 : decode cX8_clearsIfEncoded 14 = .ok (.aload_n 0, 1) := by decide +kernel
theorem dX8_clearsIfEncoded_15 : decode cX8_clearsIfEncoded 15 = .ok (.aload_n 0, 1) := by decide +kernel
theorem dX8_clearsIfEncoded_16 : decode cX8_clearsIfEncoded 16 = .ok (.iload_n 1, 1) := by decide +kernel
theorem dX8_clearsIfEncoded_17 : decode cX8_clearsIfEncoded 17 = .ok (.invokevirtual 335, 3) := by decide +kernel
theorem dX8_clearsIfEncoded_20 : decode cX8_clearsIfEncoded 20 = .ok (.invokevirtual 55, 3) := by decide +kernel
theorem dX8_clearsIfEncoded_23 : decode cX8_clearsIfEncoded 23 = .ok (.ireturn, 1) := by decide +kernel
set_option maxRecDepth 20000 in
theorem ggX8_encodedCount_X8_told : GoodIn wsX8_encodedCount wsX8_told := goodIn_r _ [6, 7, 8, 9, 10, 11, 12, 13, 14, 15, 16, 17, 18, 19, 20, 21, 22, 23, 24, 25, 26, 27, 28, 29, 30, 31, 32, 33, 34] (by decide +kernel) (by decide +kernel)
set_option maxRecDepth 20000 in
theorem gX8_encodedCount_X8_told : GoodIn wsX8_encodedCount (wsV RX8 55 RX8 yX8_told wsX8_told) := goodIn_app (goodIn_of _ (by decide +kernel)) ggX8_encodedCount_X8_told
theorem dX8_encodedCount_0 : decode cX8_encodedCount 0 = .ok (.aload_n 0, 1) := by decide +kernel
theorem dX8_encodedCount_1 : decode cX8_encodedCount 1 = .ok (.aload_n 0, 1) := by decide +kernel
theorem dX8_encodedCount_2 : decode cX8_encodedCount 2 = .ok (.getfield 17, 3) := by decide +kernel
theorem dX8_encodedCount_5 : decode cX8_encodedCount 5 = .ok (.bipush 6, 2) := by decide +kernel
theorem dX8_encodedCount_7 : decode cX8_encodedCount 7 = .ok (.iaload, 1) := by decide +kernel
theorem dX8_encodedCount_8 : decode cX8_encodedCount 8 = .ok (.invokevirtual 55, 3) := by decide +kernel
theorem dX8_encodedCount_11 : decode cX8_encodedCount 11 = .ok (.ireturn, 1) := by decide +kernel
set_option maxRecDepth 20000 in
theorem ggX8_encodedSymbol_X8_in : GoodIn wsX8_encodedSymbol wsX8_in := goodIn_r _ [5] (by decide +kernel) (by decide +kernel)
set_option maxRecDepth 20000 in
theorem gX8_encodedSymbol_X8_in : GoodIn wsX8_encodedSymbol (va_wsS RX8 62 yX8_in wsX8_in) := goodIn_app (goodIn_of _ (by decide +kernel)) ggX8_encodedSymbol_X8_in
set_option maxRecDepth 20000 in
theorem ggX8_encodedSymbol_X8_throwing : GoodIn wsX8_encodedSymbol wsX8_throwing := goodIn_r _ [9, 10, 15, 16, 17, 18, 19, 20, 21, 22, 23, 24, 25, 26, 27, 28, 29, 30, 31, 32, 33, 34, 35, 36, 37, 38, 39, 40, 41] (by decide +kernel) (by decide +kernel)
set_option maxRecDepth 20000 in
theorem gX8_encodedSymbol_X8_throwing : GoodIn wsX8_encodedSymbol (wsV RX8 59 RX8 yX8_throwing wsX8_throwing) := goodIn_app (goodIn_of _ (by decide +kernel)) ggX8_encodedSymbol_X8_throwing
set_option maxRecDepth 20000 in
theorem ggX8_encodedSymbol_X8_told : GoodIn wsX8_encodedSymbol wsX8_told := goodIn_r _ [14, 10, 15, 16, 17, 18, 19, 20, 21, 22, 23, 24, 25, 26, 27, 28, 29, 30, 31, 32, 33, 34, 35, 36, 37, 38, 39, 40, 41] (by decide +kernel) (by decide +kernel)
set_option maxRecDepth 20000 in
theorem gX8_encodedSymbol_X8_told : GoodIn wsX8_encodedSymbol (wsV RX8 55 RX8 yX8_told wsX8_told) := goodIn_app (goodIn_of _ (by decide +kernel)) ggX8_encodedSymbol_X8_told
theorem dX8_encodedSymbol_0 : decode cX8_encodedSymbol 0 = .ok (.iload_n 1, 1) := by decide +kernel
theorem dX8_encodedSymbol_1 : decode cX8_encodedSymbol 1 = .ok (.iconst 0, 1) := by decide +kernel
theorem dX8_encodedSymbol_2 : decode cX8_encodedSymbol 2 = .ok (.aload_n 0, 1) := by decide +kernel
theorem dX8_encodedSymbol_3 : decode cX8_encodedSymbol 3 = .ok (.getfield 17, 3) := by decide +kernel
theorem dX8_encodedSymbol_6 : decode cX8_encodedSymbol 6 = .ok (.bipush 6, 2) := by decide +kernel
theorem dX8_encodedSymbol_8 : decode cX8_encodedSymbol 8 = .ok (.iaload, 1) := by decide +kernel
theorem dX8_encodedSymbol_9 : decode cX8_encodedSymbol 9 = .ok (.iconst 1, 1) := by decide +kernel
theorem dX8_encodedSymbol_10 : decode cX8_encodedSymbol 10 = .ok (.isub, 1) := by decide +kernel
theorem dX8_encodedSymbol_11 : decode cX8_encodedSymbol 11 = .ok (.invokestatic 62, 3) := by decide +kernel
theorem dX8_encodedSymbol_14 : decode cX8_encodedSymbol 14 = .ok (.ifCond .ne 9, 3) := by decide +kernel
theorem dX8_encodedSymbol_17 : decode cX8_encodedSymbol 17 = .ok (.aload_n 0, 1) := by decide +kernel
theorem dX8_encodedSymbol_18 : decode cX8_encodedSymbol 18 = .ok (.iconst 1, 1) := by decide +kernel
theorem dX8_encodedSymbol_19 : decode cX8_encodedSymbol 19 = .ok (.invokevirtual 59, 3) := by decide +kernel
theorem dX8_encodedSymbol_22 : decode cX8_encodedSymbol 22 = .ok (.ireturn, 1) := by decide +kernel
theorem dX8_encodedSymbol_23 : decode cX8_encodedSymbol 23 = .ok (.aload_n 0, 1) := by decide +kernel
theorem dX8_encodedSymbol_24 : decode cX8_encodedSymbol 24 = .ok (.aload_n 0, 1) := by decide +kernel
theorem dX8_encodedSymbol_25 : decode cX8_encodedSymbol 25 = .ok (.getfield 17, 3) := by decide +kernel
theorem dX8_encodedSymbol_28 : decode cX8_encodedSymbol 28 = .ok (.sipush 526, 3) := by decide +kernel
theorem dX8_encodedSymbol_31 : decode cX8_encodedSymbol 31 = .ok (.iload_n 1, 1) := by decide +kernel
theorem dX8_encodedSymbol_32 : decode cX8_encodedSymbol 32 = .ok (.iadd, 1) := by decide +kernel
theorem dX8_encodedSymbol_33 : decode cX8_encodedSymbol 33 = .ok (.iaload, 1) := by decide +kernel
theorem dX8_encodedSymbol_34 : decode cX8_encodedSymbol 34 = .ok (.invokevirtual 55, 3) := by decide +kernel
theorem dX8_encodedSymbol_37 : decode cX8_encodedSymbol 37 = .ok (.ireturn, 1) := by decide +kernel
set_option maxRecDepth 20000 in
theorem ggX8_writtenCount_X8_told : GoodIn wsX8_writtenCount wsX8_told := goodIn_r _ [6, 7, 8, 9, 10, 11, 12, 13, 14, 15, 16, 17, 18, 19, 20, 21, 22, 23, 24, 25, 26, 27, 28, 29, 30, 31, 32, 33, 34] (by decide +kernel) (by decide +kernel)
set_option maxRecDepth 20000 in
theorem gX8_writtenCount_X8_told : GoodIn wsX8_writtenCount (wsV RX8 55 RX8 yX8_told wsX8_told) := goodIn_app (goodIn_of _ (by decide +kernel)) ggX8_writtenCount_X8_told
theorem dX8_writtenCount_0 : decode cX8_writtenCount 0 = .ok (.aload_n 0, 1) := by decide +kernel
theorem dX8_writtenCount_1 : decode cX8_writtenCount 1 = .ok (.aload_n 0, 1) := by decide +kernel
theorem dX8_writtenCount_2 : decode cX8_writtenCount 2 = .ok (.getfield 17, 3) := by decide +kernel
theorem dX8_writtenCount_5 : decode cX8_writtenCount 5 = .ok (.bipush 7, 2) := by decide +kernel
theorem dX8_writtenCount_7 : decode cX8_writtenCount 7 = .ok (.iaload, 1) := by decide +kernel
theorem dX8_writtenCount_8 : decode cX8_writtenCount 8 = .ok (.invokevirtual 55, 3) := by decide +kernel
theorem dX8_writtenCount_11 : decode cX8_writtenCount 11 = .ok (.ireturn, 1) := by decide +kernel
set_option maxRecDepth 20000 in
theorem ggX8_isWritten_X8_in : GoodIn wsX8_isWritten wsX8_in := goodIn_r _ [5] (by decide +kernel) (by decide +kernel)
set_option maxRecDepth 20000 in
theorem gX8_isWritten_X8_in : GoodIn wsX8_isWritten (va_wsS RX8 62 yX8_in wsX8_in) := goodIn_app (goodIn_of _ (by decide +kernel)) ggX8_isWritten_X8_in
theorem dX8_isWritten_0 : decode cX8_isWritten 0 = .ok (.iload_n 1, 1) := by decide +kernel
theorem dX8_isWritten_1 : decode cX8_isWritten 1 = .ok (.iconst 0, 1) := by decide +kernel
theorem dX8_isWritten_2 : decode cX8_isWritten 2 = .ok (.aload_n 0, 1) := by decide +kernel
theorem dX8_isWritten_3 : decode cX8_isWritten 3 = .ok (.getfield 17, 3) := by decide +kernel
theorem dX8_isWritten_6 : decode cX8_isWritten 6 = .ok (.bipush 7, 2) := by decide +kernel
theorem dX8_isWritten_8 : decode cX8_isWritten 8 = .ok (.iaload, 1) := by decide +kernel
theorem dX8_isWritten_9 : decode cX8_isWritten 9 = .ok (.iconst 1, 1) := by decide +kernel
theorem dX8_isWritten_10 : decode cX8_isWritten 10 = .ok (.isub, 1) := by decide +kernel
theorem dX8_isWritten_11 : decode cX8_isWritten 11 = .ok (.invokestatic 62, 3) := by decide +kernel
theorem dX8_isWritten_14 : decode cX8_isWritten 14 = .ok (.ireturn, 1) := by decide +kernel
set_option maxRecDepth 20000 in
theorem ggX8_writtenCode_X8_isWritten : GoodIn wsX8_writtenCode wsX8_isWritten := goodIn_r _ [5, 6, 7, 8, 4, 9, 23, 24, 25, 26, 27, 28, 29, 30, 31, 32, 33, 34, 35, 36, 37, 38, 39, 40, 41, 42, 43, 44, 45, 46, 47, 48, 49] (by decide +kernel) (by decide +kernel)
set_option maxRecDepth 20000 in
theorem gX8_writtenCode_X8_isWritten : GoodIn wsX8_writtenCode (wsV RX8 341 RX8 yX8_isWritten wsX8_isWritten) := goodIn_app (goodIn_of _ (by decide +kernel)) ggX8_writtenCode_X8_isWritten
set_option maxRecDepth 20000 in
theorem ggX8_writtenCode_X8_throwing : GoodIn wsX8_writtenCode wsX8_throwing := goodIn_r _ [13, 14, 23, 24, 25, 26, 27, 28, 29, 30, 31, 32, 33, 34, 35, 36, 37, 38, 39, 40, 41, 42, 43, 44, 45, 46, 47, 48, 49] (by decide +kernel) (by decide +kernel)
set_option maxRecDepth 20000 in
theorem gX8_writtenCode_X8_throwing : GoodIn wsX8_writtenCode (wsV RX8 59 RX8 yX8_throwing wsX8_throwing) := goodIn_app (goodIn_of _ (by decide +kernel)) ggX8_writtenCode_X8_throwing
set_option maxRecDepth 20000 in
theorem ggX8_writtenCode_X8_codeAt : GoodIn wsX8_writtenCode wsX8_codeAt := goodIn_r _ [18, 6, 23, 24, 25, 26, 27, 28, 29, 30, 31, 32, 33, 34, 35, 36, 37, 38, 39, 40, 41, 42, 43, 44, 45, 46, 47, 48, 49] (by decide +kernel) (by decide +kernel)
set_option maxRecDepth 20000 in
theorem gX8_writtenCode_X8_codeAt : GoodIn wsX8_writtenCode (wsV RX8 99 RX8 yX8_codeAt wsX8_codeAt) := goodIn_app (goodIn_of _ (by decide +kernel)) ggX8_writtenCode_X8_codeAt
set_option maxRecDepth 20000 in
theorem ggX8_writtenCode_X8_told : GoodIn wsX8_writtenCode wsX8_told := goodIn_r _ [22, 14, 23, 24, 25, 26, 27, 28, 29, 30, 31, 32, 33, 34, 35, 36, 37, 38, 39, 40, 41, 42, 43, 44, 45, 46, 47, 48, 49] (by decide +kernel) (by decide +kernel)
set_option maxRecDepth 20000 in
theorem gX8_writtenCode_X8_told : GoodIn wsX8_writtenCode (wsV RX8 55 RX8 yX8_told wsX8_told) := goodIn_app (goodIn_of _ (by decide +kernel)) ggX8_writtenCode_X8_told
theorem dX8_writtenCode_0 : decode cX8_writtenCode 0 = .ok (.aload_n 0, 1) := by decide +kernel
theorem dX8_writtenCode_1 : decode cX8_writtenCode 1 = .ok (.iload_n 1, 1) := by decide +kernel
theorem dX8_writtenCode_2 : decode cX8_writtenCode 2 = .ok (.invokevirtual 341, 3) := by decide +kernel
theorem dX8_writtenCode_5 : decode cX8_writtenCode 5 = .ok (.ifCond .ne 9, 3) := by decide +kernel
theorem dX8_writtenCode_8 : decode cX8_writtenCode 8 = .ok (.aload_n 0, 1) := by decide +kernel
theorem dX8_writtenCode_9 : decode cX8_writtenCode 9 = .ok (.iconst 1, 1) := by decide +kernel
theorem dX8_writtenCode_10 : decode cX8_writtenCode 10 = .ok (.invokevirtual 59, 3) := by decide +kernel
theorem dX8_writtenCode_13 : decode cX8_writtenCode 13 = .ok (.ireturn, 1) := by decide +kernel
theorem dX8_writtenCode_14 : decode cX8_writtenCode 14 = .ok (.aload_n 0, 1) := by decide +kernel
theorem dX8_writtenCode_15 : decode cX8_writtenCode 15 = .ok (.aload_n 0, 1) := by decide +kernel
theorem dX8_writtenCode_16 : decode cX8_writtenCode 16 = .ok (.iload_n 1, 1) := by decide +kernel
theorem dX8_writtenCode_17 : decode cX8_writtenCode 17 = .ok (.invokevirtual 99, 3) := by decide +kernel
theorem dX8_writtenCode_20 : decode cX8_writtenCode 20 = .ok (.invokevirtual 55, 3) := by decide +kernel
theorem dX8_writtenCode_23 : decode cX8_writtenCode 23 = .ok (.ireturn, 1) := by decide +kernel
set_option maxRecDepth 20000 in
theorem ggX8_writtenWidth_X8_isWritten : GoodIn wsX8_writtenWidth wsX8_isWritten := goodIn_r _ [5, 6, 7, 8, 4, 9, 23, 24, 25, 26, 27, 28, 29, 30, 31, 32, 33, 34, 35, 36, 37, 38, 39, 40, 41, 42, 43, 44, 45, 46, 47, 48, 49] (by decide +kernel) (by decide +kernel)
set_option maxRecDepth 20000 in
theorem gX8_writtenWidth_X8_isWritten : GoodIn wsX8_writtenWidth (wsV RX8 341 RX8 yX8_isWritten wsX8_isWritten) := goodIn_app (goodIn_of _ (by decide +kernel)) ggX8_writtenWidth_X8_isWritten
set_option maxRecDepth 20000 in
theorem ggX8_writtenWidth_X8_throwing : GoodIn wsX8_writtenWidth wsX8_throwing := goodIn_r _ [13, 14, 23, 24, 25, 26, 27, 28, 29, 30, 31, 32, 33, 34, 35, 36, 37, 38, 39, 40, 41, 42, 43, 44, 45, 46, 47, 48, 49] (by decide +kernel) (by decide +kernel)
set_option maxRecDepth 20000 in
theorem gX8_writtenWidth_X8_throwing : GoodIn wsX8_writtenWidth (wsV RX8 59 RX8 yX8_throwing wsX8_throwing) := goodIn_app (goodIn_of _ (by decide +kernel)) ggX8_writtenWidth_X8_throwing
set_option maxRecDepth 20000 in
theorem ggX8_writtenWidth_X8_widthAt : GoodIn wsX8_writtenWidth wsX8_widthAt := goodIn_r _ [18, 6, 23, 24, 25, 26, 27, 28, 29, 30, 31, 32, 33, 34, 35, 36, 37, 38, 39, 40, 41, 42, 43, 44, 45, 46, 47, 48, 49] (by decide +kernel) (by decide +kernel)
set_option maxRecDepth 20000 in
theorem gX8_writtenWidth_X8_widthAt : GoodIn wsX8_writtenWidth (wsV RX8 102 RX8 yX8_widthAt wsX8_widthAt) := goodIn_app (goodIn_of _ (by decide +kernel)) ggX8_writtenWidth_X8_widthAt
set_option maxRecDepth 20000 in
theorem ggX8_writtenWidth_X8_told : GoodIn wsX8_writtenWidth wsX8_told := goodIn_r _ [22, 14, 23, 24, 25, 26, 27, 28, 29, 30, 31, 32, 33, 34, 35, 36, 37, 38, 39, 40, 41, 42, 43, 44, 45, 46, 47, 48, 49] (by decide +kernel) (by decide +kernel)
set_option maxRecDepth 20000 in
theorem gX8_writtenWidth_X8_told : GoodIn wsX8_writtenWidth (wsV RX8 55 RX8 yX8_told wsX8_told) := goodIn_app (goodIn_of _ (by decide +kernel)) ggX8_writtenWidth_X8_told
theorem dX8_writtenWidth_0 : decode cX8_writtenWidth 0 = .ok (.aload_n 0, 1) := by decide +kernel
theorem dX8_writtenWidth_1 : decode cX8_writtenWidth 1 = .ok (.iload_n 1, 1) := by decide +kernel
theorem dX8_writtenWidth_2 : decode cX8_writtenWidth 2 = .ok (.invokevirtual 341, 3) := by decide +kernel
theorem dX8_writtenWidth_5 : decode cX8_writtenWidth 5 = .ok (.ifCond .ne 9, 3) := by decide +kernel
theorem dX8_writtenWidth_8 : decode cX8_writtenWidth 8 = .ok (.aload_n 0, 1) := by decide +kernel
theorem dX8_writtenWidth_9 : decode cX8_writtenWidth 9 = .ok (.iconst 1, 1) := by decide +kernel
theorem dX8_writtenWidth_10 : decode cX8_writtenWidth 10 = .ok (.invokevirtual 59, 3) := by decide +kernel
theorem dX8_writtenWidth_13 : decode cX8_writtenWidth 13 = .ok (.ireturn, 1) := by decide +kernel
theorem dX8_writtenWidth_14 : decode cX8_writtenWidth 14 = .ok (.aload_n 0, 1) := by decide +kernel
theorem dX8_writtenWidth_15 : decode cX8_writtenWidth 15 = .ok (.aload_n 0, 1) := by decide +kernel
theorem dX8_writtenWidth_16 : decode cX8_writtenWidth 16 = .ok (.iload_n 1, 1) := by decide +kernel
theorem dX8_writtenWidth_17 : decode cX8_writtenWidth 17 = .ok (.invokevirtual 102, 3) := by decide +kernel
theorem dX8_writtenWidth_20 : decode cX8_writtenWidth 20 = .ok (.invokevirtual 55, 3) := by decide +kernel
theorem dX8_writtenWidth_23 : decode cX8_writtenWidth 23 = .ok (.ireturn, 1) := by decide +kernel
set_option maxRecDepth 20000 in
theorem ggX8_bitCount_X8_allBits : GoodIn wsX8_bitCount wsX8_allBits := goodIn_r _ [5, 6, 7, 8, 4, 9, 10, 11, 12, 13, 14, 20, 21, 22, 23, 24, 25, 26, 27, 28, 29, 30, 31, 32, 33, 34, 35, 36, 37, 38, 39, 40, 41, 42, 43, 44, 45, 46] (by decide +kernel) (by decide +kernel)
set_option maxRecDepth 20000 in
theorem gX8_bitCount_X8_allBits : GoodIn wsX8_bitCount (wsV RX8 344 RX8 yX8_allBits wsX8_allBits) := goodIn_app (goodIn_of _ (by decide +kernel)) ggX8_bitCount_X8_allBits
set_option maxRecDepth 20000 in
theorem ggX8_bitCount_X8_told : GoodIn wsX8_bitCount wsX8_told := goodIn_r _ [18, 19, 20, 21, 22, 23, 24, 25, 26, 27, 28, 29, 30, 31, 32, 33, 34, 35, 36, 37, 38, 39, 40, 41, 42, 43, 44, 45, 46] (by decide +kernel) (by decide +kernel)
set_option maxRecDepth 20000 in
theorem gX8_bitCount_X8_told : GoodIn wsX8_bitCount (wsV RX8 55 RX8 yX8_told wsX8_told) := goodIn_app (goodIn_of _ (by decide +kernel)) ggX8_bitCount_X8_told
theorem dX8_bitCount_0 : decode cX8_bitCount 0 = .ok (.aload_n 0, 1) := by decide +kernel
theorem dX8_bitCount_1 : decode cX8_bitCount 1 = .ok (.aload_n 0, 1) := by decide +kernel
theorem dX8_bitCount_2 : decode cX8_bitCount 2 = .ok (.invokevirtual 344, 3) := by decide +kernel
theorem dX8_bitCount_5 : decode cX8_bitCount 5 = .ok (.invokevirtual 55, 3) := by decide +kernel
theorem dX8_bitCount_8 : decode cX8_bitCount 8 = .ok (.ireturn, 1) := by decide +kernel
set_option maxRecDepth 20000 in
theorem ggX8_bit_X8_widthAt : GoodIn wsX8_bit wsX8_widthAt := goodIn_r _ [5, 6, 11, 12, 13, 14, 15, 16, 17, 18, 19, 20, 21, 22, 23, 24, 25, 26, 27, 28, 29, 30, 31, 32, 33, 34, 35, 36, 37] (by decide +kernel) (by decide +kernel)
set_option maxRecDepth 20000 in
theorem gX8_bit_X8_widthAt : GoodIn wsX8_bit (wsV RX8 102 RX8 yX8_widthAt wsX8_widthAt) := goodIn_app (goodIn_of _ (by decide +kernel)) ggX8_bit_X8_widthAt
set_option maxRecDepth 20000 in
theorem ggX8_bit_X8_codeAt : GoodIn wsX8_bit wsX8_codeAt := goodIn_r _ [10, 6, 11, 12, 13, 14, 15, 16, 17, 18, 19, 20, 21, 22, 23, 24, 25, 26, 27, 28, 29, 30, 31, 32, 33, 34, 35, 36, 37] (by decide +kernel) (by decide +kernel)
set_option maxRecDepth 20000 in
theorem gX8_bit_X8_codeAt : GoodIn wsX8_bit (wsV RX8 99 RX8 yX8_codeAt wsX8_codeAt) := goodIn_app (goodIn_of _ (by decide +kernel)) ggX8_bit_X8_codeAt
theorem dX8_bit_0 : decode cX8_bit 0 = .ok (.iload_n 1, 1) := by decide +kernel
theorem dX8_bit_1 : decode cX8_bit 1 = .ok (.istore_n 2, 1) := by decide +kernel
theorem dX8_bit_2 : decode cX8_bit 2 = .ok (.iconst 0, 1) := by decide +kernel
theorem dX8_bit_3 : decode cX8_bit 3 = .ok (.istore_n 3, 1) := by decide +kernel
theorem dX8_bit_4 : decode cX8_bit 4 = .ok (.iload_n 2, 1) := by decide +kernel
theorem dX8_bit_5 : decode cX8_bit 5 = .ok (.aload_n 0, 1) := by decide +kernel
theorem dX8_bit_6 : decode cX8_bit 6 = .ok (.iload_n 3, 1) := by decide +kernel
theorem dX8_bit_7 : decode cX8_bit 7 = .ok (.invokevirtual 102, 3) := by decide +kernel
theorem dX8_bit_10 : decode cX8_bit 10 = .ok (.if_icmp .lt 17, 3) := by decide +kernel
theorem dX8_bit_13 : decode cX8_bit 13 = .ok (.iload_n 2, 1) := by decide +kernel
theorem dX8_bit_14 : decode cX8_bit 14 = .ok (.aload_n 0, 1) := by decide +kernel
theorem dX8_bit_15 : decode cX8_bit 15 = .ok (.iload_n 3, 1) := by decide +kernel
theorem dX8_bit_16 : decode cX8_bit 16 = .ok (.invokevirtual 102, 3) := by decide +kernel
theorem dX8_bit_19 : decode cX8_bit 19 = .ok (.isub, 1) := by decide +kernel
theorem dX8_bit_20 : decode cX8_bit 20 = .ok (.istore_n 2, 1) := by decide +kernel
theorem dX8_bit_21 : decode cX8_bit 21 = .ok (.iinc 3 1, 3) := by decide +kernel
theorem dX8_bit_24 : decode cX8_bit 24 = .ok (.goto (-20), 3) := by decide +kernel
theorem dX8_bit_27 : decode cX8_bit 27 = .ok (.aload_n 0, 1) := by decide +kernel
theorem dX8_bit_28 : decode cX8_bit 28 = .ok (.iload_n 3, 1) := by decide +kernel
theorem dX8_bit_29 : decode cX8_bit 29 = .ok (.invokevirtual 102, 3) := by decide +kernel
theorem dX8_bit_32 : decode cX8_bit 32 = .ok (.iconst 1, 1) := by decide +kernel
theorem dX8_bit_33 : decode cX8_bit 33 = .ok (.isub, 1) := by decide +kernel
theorem dX8_bit_34 : decode cX8_bit 34 = .ok (.iload_n 2, 1) := by decide +kernel
theorem dX8_bit_35 : decode cX8_bit 35 = .ok (.isub, 1) := by decide +kernel
theorem dX8_bit_36 : decode cX8_bit 36 = .ok (.istore 4, 2) := by decide +kernel
theorem dX8_bit_38 : decode cX8_bit 38 = .ok (.aload_n 0, 1) := by decide +kernel
theorem dX8_bit_39 : decode cX8_bit 39 = .ok (.iload_n 3, 1) := by decide +kernel
theorem dX8_bit_40 : decode cX8_bit 40 = .ok (.invokevirtual 99, 3) := by decide +kernel
theorem dX8_bit_43 : decode cX8_bit 43 = .ok (.iload 4, 2) := by decide +kernel
theorem dX8_bit_45 : decode cX8_bit 45 = .ok (.ishr, 1) := by decide +kernel
theorem dX8_bit_46 : decode cX8_bit 46 = .ok (.iconst 1, 1) := by decide +kernel
theorem dX8_bit_47 : decode cX8_bit 47 = .ok (.iand, 1) := by decide +kernel
theorem dX8_bit_48 : decode cX8_bit 48 = .ok (.ireturn, 1) := by decide +kernel
set_option maxRecDepth 20000 in
theorem ggX8_bitAt_X8_allBits : GoodIn wsX8_bitAt wsX8_allBits := goodIn_r _ [5, 6, 7, 8, 4, 9, 10, 11, 12, 13, 14, 35, 36, 37, 38, 39, 40, 41, 42, 43, 44, 45, 46, 47, 48, 49, 50, 51, 52, 53, 54, 55, 56, 57, 58, 59, 60, 61] (by decide +kernel) (by decide +kernel)
set_option maxRecDepth 20000 in
theorem gX8_bitAt_X8_allBits : GoodIn wsX8_bitAt (wsV RX8 344 RX8 yX8_allBits wsX8_allBits) := goodIn_app (goodIn_of _ (by decide +kernel)) ggX8_bitAt_X8_allBits
set_option maxRecDepth 20000 in
theorem ggX8_bitAt_X8_in : GoodIn wsX8_bitAt wsX8_in := goodIn_r _ [17] (by decide +kernel) (by decide +kernel)
set_option maxRecDepth 20000 in
theorem gX8_bitAt_X8_in : GoodIn wsX8_bitAt (va_wsS RX8 62 yX8_in wsX8_in) := goodIn_app (goodIn_of _ (by decide +kernel)) ggX8_bitAt_X8_in
set_option maxRecDepth 20000 in
theorem ggX8_bitAt_X8_throwing : GoodIn wsX8_bitAt wsX8_throwing := goodIn_r _ [21, 22, 35, 36, 37, 38, 39, 40, 41, 42, 43, 44, 45, 46, 47, 48, 49, 50, 51, 52, 53, 54, 55, 56, 57, 58, 59, 60, 61] (by decide +kernel) (by decide +kernel)
set_option maxRecDepth 20000 in
theorem gX8_bitAt_X8_throwing : GoodIn wsX8_bitAt (wsV RX8 59 RX8 yX8_throwing wsX8_throwing) := goodIn_app (goodIn_of _ (by decide +kernel)) ggX8_bitAt_X8_throwing
set_option maxRecDepth 20000 in
theorem ggX8_bitAt_X8_bit : GoodIn wsX8_bitAt wsX8_bit := goodIn_r _ [26, 11, 12, 13, 4, 14, 10, 27, 28, 29, 30, 35, 36, 37, 38, 39, 40, 41, 42, 43, 44, 45, 46, 47, 48, 49, 50, 51, 52, 53, 54, 55, 56, 57, 58, 59, 60, 61] (by decide +kernel) (by decide +kernel)
set_option maxRecDepth 20000 in
theorem gX8_bitAt_X8_bit : GoodIn wsX8_bitAt (wsV RX8 347 RX8 yX8_bit wsX8_bit) := goodIn_app (goodIn_of _ (by decide +kernel)) ggX8_bitAt_X8_bit
set_option maxRecDepth 20000 in
theorem ggX8_bitAt_X8_told : GoodIn wsX8_bitAt wsX8_told := goodIn_r _ [34, 22, 35, 36, 37, 38, 39, 40, 41, 42, 43, 44, 45, 46, 47, 48, 49, 50, 51, 52, 53, 54, 55, 56, 57, 58, 59, 60, 61] (by decide +kernel) (by decide +kernel)
set_option maxRecDepth 20000 in
theorem gX8_bitAt_X8_told : GoodIn wsX8_bitAt (wsV RX8 55 RX8 yX8_told wsX8_told) := goodIn_app (goodIn_of _ (by decide +kernel)) ggX8_bitAt_X8_told
theorem dX8_bitAt_0 : decode cX8_bitAt 0 = .ok (.iload_n 1, 1) := by decide +kernel
theorem dX8_bitAt_1 : decode cX8_bitAt 1 = .ok (.iconst 0, 1) := by decide +kernel
theorem dX8_bitAt_2 : decode cX8_bitAt 2 = .ok (.aload_n 0, 1) := by decide +kernel
theorem dX8_bitAt_3 : decode cX8_bitAt 3 = .ok (.invokevirtual 344, 3) := by decide +kernel
theorem dX8_bitAt_6 : decode cX8_bitAt 6 = .ok (.iconst 1, 1) := by decide +kernel
theorem dX8_bitAt_7 : decode cX8_bitAt 7 = .ok (.isub, 1) := by decide +kernel
theorem dX8_bitAt_8 : decode cX8_bitAt 8 = .ok (.invokestatic 62, 3) := by decide +kernel
theorem dX8_bitAt_11 : decode cX8_bitAt 11 = .ok (.ifCond .ne 9, 3) := by decide +kernel
theorem dX8_bitAt_14 : decode cX8_bitAt 14 = .ok (.aload_n 0, 1) := by decide +kernel
theorem dX8_bitAt_15 : decode cX8_bitAt 15 = .ok (.iconst 1, 1) := by decide +kernel
theorem dX8_bitAt_16 : decode cX8_bitAt 16 = .ok (.invokevirtual 59, 3) := by decide +kernel
theorem dX8_bitAt_19 : decode cX8_bitAt 19 = .ok (.ireturn, 1) := by decide +kernel
theorem dX8_bitAt_20 : decode cX8_bitAt 20 = .ok (.aload_n 0, 1) := by decide +kernel
theorem dX8_bitAt_21 : decode cX8_bitAt 21 = .ok (.aload_n 0, 1) := by decide +kernel
theorem dX8_bitAt_22 : decode cX8_bitAt 22 = .ok (.iload_n 1, 1) := by decide +kernel
theorem dX8_bitAt_23 : decode cX8_bitAt 23 = .ok (.invokevirtual 347, 3) := by decide +kernel
theorem dX8_bitAt_26 : decode cX8_bitAt 26 = .ok (.invokevirtual 55, 3) := by decide +kernel
theorem dX8_bitAt_29 : decode cX8_bitAt 29 = .ok (.ireturn, 1) := by decide +kernel
set_option maxRecDepth 20000 in
theorem ggX8_bytes_X8_allBits : GoodIn wsX8_bytes wsX8_allBits := goodIn_r _ [5, 6, 7, 8, 4, 9, 10, 11, 12, 13, 14, 15, 16, 17, 18, 19, 20, 21, 22, 23, 24, 25, 26, 27, 28, 29, 30, 31, 32, 33, 34, 35, 36, 37, 38, 39, 40, 41] (by decide +kernel) (by decide +kernel)
set_option maxRecDepth 20000 in
theorem gX8_bytes_X8_allBits : GoodIn wsX8_bytes (wsV RX8 344 RX8 yX8_allBits wsX8_allBits) := goodIn_app (goodIn_of _ (by decide +kernel)) ggX8_bytes_X8_allBits
theorem dX8_bytes_0 : decode cX8_bytes 0 = .ok (.aload_n 0, 1) := by decide +kernel
theorem dX8_bytes_1 : decode cX8_bytes 1 = .ok (.invokevirtual 344, 3) := by decide +kernel
theorem dX8_bytes_4 : decode cX8_bytes 4 = .ok (.bipush 7, 2) := by decide +kernel
theorem dX8_bytes_6 : decode cX8_bytes 6 = .ok (.iadd, 1) := by decide +kernel
theorem dX8_bytes_7 : decode cX8_bytes 7 = .ok (.bipush 8, 2) := by decide +kernel
theorem dX8_bytes_9 : decode cX8_bytes 9 = .ok (.idiv, 1) := by decide +kernel
theorem dX8_bytes_10 : decode cX8_bytes 10 = .ok (.ireturn, 1) := by decide +kernel
set_option maxRecDepth 20000 in
theorem ggX8_byteCount_X8_bytes : GoodIn wsX8_byteCount wsX8_bytes := goodIn_r _ [5, 6, 7, 8, 4, 9, 10, 11, 12, 13, 14, 15, 16, 17, 18, 24, 25, 26, 27, 28, 29, 30, 31, 32, 33, 34, 35, 36, 37, 38, 39, 40, 41, 42, 43, 44, 45, 46, 47, 48, 49, 50] (by decide +kernel) (by decide +kernel)
set_option maxRecDepth 20000 in
theorem gX8_byteCount_X8_bytes : GoodIn wsX8_byteCount (wsV RX8 350 RX8 yX8_bytes wsX8_bytes) := goodIn_app (goodIn_of _ (by decide +kernel)) ggX8_byteCount_X8_bytes
set_option maxRecDepth 20000 in
theorem ggX8_byteCount_X8_told : GoodIn wsX8_byteCount wsX8_told := goodIn_r _ [22, 23, 24, 25, 26, 27, 28, 29, 30, 31, 32, 33, 34, 35, 36, 37, 38, 39, 40, 41, 42, 43, 44, 45, 46, 47, 48, 49, 50] (by decide +kernel) (by decide +kernel)
set_option maxRecDepth 20000 in
theorem gX8_byteCount_X8_told : GoodIn wsX8_byteCount (wsV RX8 55 RX8 yX8_told wsX8_told) := goodIn_app (goodIn_of _ (by decide +kernel)) ggX8_byteCount_X8_told
theorem dX8_byteCount_0 : decode cX8_byteCount 0 = .ok (.aload_n 0, 1) := by decide +kernel
theorem dX8_byteCount_1 : decode cX8_byteCount 1 = .ok (.aload_n 0, 1) := by decide +kernel
theorem dX8_byteCount_2 : decode cX8_byteCount 2 = .ok (.invokevirtual 350, 3) := by decide +kernel
theorem dX8_byteCount_5 : decode cX8_byteCount 5 = .ok (.invokevirtual 55, 3) := by decide +kernel
theorem dX8_byteCount_8 : decode cX8_byteCount 8 = .ok (.ireturn, 1) := by decide +kernel
set_option maxRecDepth 20000 in
theorem ggX8_byteAt_X8_bytes : GoodIn wsX8_byteAt wsX8_bytes := goodIn_r _ [5, 6, 7, 8, 4, 9, 10, 11, 12, 13, 14, 15, 16, 17, 18, 39, 40, 41, 42, 43, 44, 45, 46, 47, 48, 49, 50, 51, 52, 53, 54, 55, 56, 57, 58, 59, 60, 61, 62, 63, 64, 65] (by decide +kernel) (by decide +kernel)
set_option maxRecDepth 20000 in
theorem gX8_byteAt_X8_bytes : GoodIn wsX8_byteAt (wsV RX8 350 RX8 yX8_bytes wsX8_bytes) := goodIn_app (goodIn_of _ (by decide +kernel)) ggX8_byteAt_X8_bytes
set_option maxRecDepth 20000 in
theorem ggX8_byteAt_X8_in : GoodIn wsX8_byteAt wsX8_in := goodIn_r _ [21] (by decide +kernel) (by decide +kernel)
set_option maxRecDepth 20000 in
theorem gX8_byteAt_X8_in : GoodIn wsX8_byteAt (va_wsS RX8 62 yX8_in wsX8_in) := goodIn_app (goodIn_of _ (by decide +kernel)) ggX8_byteAt_X8_in
set_option maxRecDepth 20000 in
theorem ggX8_byteAt_X8_throwing : GoodIn wsX8_byteAt wsX8_throwing := goodIn_r _ [25, 26, 39, 40, 41, 42, 43, 44, 45, 46, 47, 48, 49, 50, 51, 52, 53, 54, 55, 56, 57, 58, 59, 60, 61, 62, 63, 64, 65] (by decide +kernel) (by decide +kernel)
set_option maxRecDepth 20000 in
theorem gX8_byteAt_X8_throwing : GoodIn wsX8_byteAt (wsV RX8 59 RX8 yX8_throwing wsX8_throwing) := goodIn_app (goodIn_of _ (by decide +kernel)) ggX8_byteAt_X8_throwing
set_option maxRecDepth 20000 in
theorem ggX8_byteAt_X8_allBits : GoodIn wsX8_byteAt wsX8_allBits := goodIn_r _ [9, 10, 11, 12, 4, 13, 14, 15, 16, 17, 18, 39, 40, 41, 42, 43, 44, 45, 46, 47, 48, 49, 50, 51, 52, 53, 54, 55, 56, 57, 58, 59, 60, 61, 62, 63, 64, 65] (by decide +kernel) (by decide +kernel)
set_option maxRecDepth 20000 in
theorem gX8_byteAt_X8_allBits : GoodIn wsX8_byteAt (wsV RX8 344 RX8 yX8_allBits wsX8_allBits) := goodIn_app (goodIn_of _ (by decide +kernel)) ggX8_byteAt_X8_allBits
set_option maxRecDepth 20000 in
theorem ggX8_byteAt_X8_bit : GoodIn wsX8_byteAt wsX8_bit := goodIn_r _ [30, 15, 16, 17, 4, 18, 14, 31, 32, 33, 34, 39, 40, 41, 42, 43, 44, 45, 46, 47, 48, 49, 50, 51, 52, 53, 54, 55, 56, 57, 58, 59, 60, 61, 62, 63, 64, 65] (by decide +kernel) (by decide +kernel)
set_option maxRecDepth 20000 in
theorem gX8_byteAt_X8_bit : GoodIn wsX8_byteAt (wsV RX8 347 RX8 yX8_bit wsX8_bit) := goodIn_app (goodIn_of _ (by decide +kernel)) ggX8_byteAt_X8_bit
set_option maxRecDepth 20000 in
theorem ggX8_byteAt_X8_told : GoodIn wsX8_byteAt wsX8_told := goodIn_r _ [38, 26, 39, 40, 41, 42, 43, 44, 45, 46, 47, 48, 49, 50, 51, 52, 53, 54, 55, 56, 57, 58, 59, 60, 61, 62, 63, 64, 65] (by decide +kernel) (by decide +kernel)
set_option maxRecDepth 20000 in
theorem gX8_byteAt_X8_told : GoodIn wsX8_byteAt (wsV RX8 55 RX8 yX8_told wsX8_told) := goodIn_app (goodIn_of _ (by decide +kernel)) ggX8_byteAt_X8_told
theorem dX8_byteAt_0 : decode cX8_byteAt 0 = .ok (.iload_n 1, 1) := by decide +kernel
theorem dX8_byteAt_1 : decode cX8_byteAt 1 = .ok (.iconst 0, 1) := by decide +kernel
theorem dX8_byteAt_2 : decode cX8_byteAt 2 = .ok (.aload_n 0, 1) := by decide +kernel
theorem dX8_byteAt_3 : decode cX8_byteAt 3 = .ok (.invokevirtual 350, 3) := by decide +kernel
theorem dX8_byteAt_6 : decode cX8_byteAt 6 = .ok (.iconst 1, 1) := by decide +kernel
theorem dX8_byteAt_7 : decode cX8_byteAt 7 = .ok (.isub, 1) := by decide +kernel
theorem dX8_byteAt_8 : decode cX8_byteAt 8 = .ok (.invokestatic 62, 3) := by decide +kernel
theorem dX8_byteAt_11 : decode cX8_byteAt 11 = .ok (.ifCond .ne 9, 3) := by decide +kernel
theorem dX8_byteAt_14 : decode cX8_byteAt 14 = .ok (.aload_n 0, 1) := by decide +kernel
theorem dX8_byteAt_15 : decode cX8_byteAt 15 = .ok (.iconst 1, 1) := by decide +kernel
theorem dX8_byteAt_16 : decode cX8_byteAt 16 = .ok (.invokevirtual 59, 3) := by decide +kernel
theorem dX8_byteAt_19 : decode cX8_byteAt 19 = .ok (.ireturn, 1) := by decide +kernel
theorem dX8_byteAt_20 : decode cX8_byteAt 20 = .ok (.aload_n 0, 1) := by decide +kernel
theorem dX8_byteAt_21 : decode cX8_byteAt 21 = .ok (.invokevirtual 344, 3) := by decide +kernel
theorem dX8_byteAt_24 : decode cX8_byteAt 24 = .ok (.istore_n 2, 1) := by decide +kernel
theorem dX8_byteAt_25 : decode cX8_byteAt 25 = .ok (.iconst 0, 1) := by decide +kernel
theorem dX8_byteAt_26 : decode cX8_byteAt 26 = .ok (.istore_n 3, 1) := by decide +kernel
theorem dX8_byteAt_27 : decode cX8_byteAt 27 = .ok (.bipush 8, 2) := by decide +kernel
theorem dX8_byteAt_29 : decode cX8_byteAt 29 = .ok (.iload_n 1, 1) := by decide +kernel
theorem dX8_byteAt_30 : decode cX8_byteAt 30 = .ok (.imul, 1) := by decide +kernel
theorem dX8_byteAt_31 : decode cX8_byteAt 31 = .ok (.istore 4, 2) := by decide +kernel
theorem dX8_byteAt_33 : decode cX8_byteAt 33 = .ok (.iload 4, 2) := by decide +kernel
theorem dX8_byteAt_35 : decode cX8_byteAt 35 = .ok (.bipush 8, 2) := by decide +kernel
theorem dX8_byteAt_37 : decode cX8_byteAt 37 = .ok (.iload_n 1, 1) := by decide +kernel
theorem dX8_byteAt_38 : decode cX8_byteAt 38 = .ok (.imul, 1) := by decide +kernel
theorem dX8_byteAt_39 : decode cX8_byteAt 39 = .ok (.bipush 8, 2) := by decide +kernel
theorem dX8_byteAt_41 : decode cX8_byteAt 41 = .ok (.iadd, 1) := by decide +kernel
theorem dX8_byteAt_42 : decode cX8_byteAt 42 = .ok (.if_icmp .ge 34, 3) := by decide +kernel
theorem dX8_byteAt_45 : decode cX8_byteAt 45 = .ok (.iload 4, 2) := by decide +kernel
theorem dX8_byteAt_47 : decode cX8_byteAt 47 = .ok (.iload_n 2, 1) := by decide +kernel
theorem dX8_byteAt_48 : decode cX8_byteAt 48 = .ok (.if_icmp .ge 12, 3) := by decide +kernel
theorem dX8_byteAt_51 : decode cX8_byteAt 51 = .ok (.aload_n 0, 1) := by decide +kernel
theorem dX8_byteAt_52 : decode cX8_byteAt 52 = .ok (.iload 4, 2) := by decide +kernel
theorem dX8_byteAt_54 : decode cX8_byteAt 54 = .ok (.invokevirtual 347, 3) := by decide +kernel
theorem dX8_byteAt_57 : decode cX8_byteAt 57 = .ok (.goto 4, 3) := by decide +kernel
theorem dX8_byteAt_60 : decode cX8_byteAt 60 = .ok (.iconst 0, 1) := by decide +kernel
theorem dX8_byteAt_61 : decode cX8_byteAt 61 = .ok (.istore 5, 2) := by decide +kernel
theorem dX8_byteAt_63 : decode cX8_byteAt 63 = .ok (.iconst 2, 1) := by decide +kernel
theorem dX8_byteAt_64 : decode cX8_byteAt 64 = .ok (.iload_n 3, 1) := by decide +kernel
theorem dX8_byteAt_65 : decode cX8_byteAt 65 = .ok (.imul, 1) := by decide +kernel
theorem dX8_byteAt_66 : decode cX8_byteAt 66 = .ok (.iload 5, 2) := by decide +kernel
theorem dX8_byteAt_68 : decode cX8_byteAt 68 = .ok (.iadd, 1) := by decide +kernel
theorem dX8_byteAt_69 : decode cX8_byteAt 69 = .ok (.istore_n 3, 1) := by decide +kernel
theorem dX8_byteAt_70 : decode cX8_byteAt 70 = .ok (.iinc 4 1, 3) := by decide +kernel
theorem dX8_byteAt_73 : decode cX8_byteAt 73 = .ok (.goto (-40), 3) := by decide +kernel
theorem dX8_byteAt_76 : decode cX8_byteAt 76 = .ok (.aload_n 0, 1) := by decide +kernel
theorem dX8_byteAt_77 : decode cX8_byteAt 77 = .ok (.iload_n 3, 1) := by decide +kernel
theorem dX8_byteAt_78 : decode cX8_byteAt 78 = .ok (.invokevirtual 55, 3) := by decide +kernel
theorem dX8_byteAt_81 : decode cX8_byteAt 81 = .ok (.ireturn, 1) := by decide +kernel
set_option maxRecDepth 20000 in
theorem ggX8_clearCount_X8_told : GoodIn wsX8_clearCount wsX8_told := goodIn_r _ [6, 7, 8, 9, 10, 11, 12, 13, 14, 15, 16, 17, 18, 19, 20, 21, 22, 23, 24, 25, 26, 27, 28, 29, 30, 31, 32, 33, 34] (by decide +kernel) (by decide +kernel)
set_option maxRecDepth 20000 in
theorem gX8_clearCount_X8_told : GoodIn wsX8_clearCount (wsV RX8 55 RX8 yX8_told wsX8_told) := goodIn_app (goodIn_of _ (by decide +kernel)) ggX8_clearCount_X8_told
theorem dX8_clearCount_0 : decode cX8_clearCount 0 = .ok (.aload_n 0, 1) := by decide +kernel
theorem dX8_clearCount_1 : decode cX8_clearCount 1 = .ok (.aload_n 0, 1) := by decide +kernel
theorem dX8_clearCount_2 : decode cX8_clearCount 2 = .ok (.getfield 17, 3) := by decide +kernel
theorem dX8_clearCount_5 : decode cX8_clearCount 5 = .ok (.bipush 8, 2) := by decide +kernel
theorem dX8_clearCount_7 : decode cX8_clearCount 7 = .ok (.iaload, 1) := by decide +kernel
theorem dX8_clearCount_8 : decode cX8_clearCount 8 = .ok (.invokevirtual 55, 3) := by decide +kernel
theorem dX8_clearCount_11 : decode cX8_clearCount 11 = .ok (.ireturn, 1) := by decide +kernel
set_option maxRecDepth 20000 in
theorem ggX8_codesSinceClear_X8_told : GoodIn wsX8_codesSinceClear wsX8_told := goodIn_r _ [6, 7, 8, 9, 10, 11, 12, 13, 14, 15, 16, 17, 18, 19, 20, 21, 22, 23, 24, 25, 26, 27, 28, 29, 30, 31, 32, 33, 34] (by decide +kernel) (by decide +kernel)
set_option maxRecDepth 20000 in
theorem gX8_codesSinceClear_X8_told : GoodIn wsX8_codesSinceClear (wsV RX8 55 RX8 yX8_told wsX8_told) := goodIn_app (goodIn_of _ (by decide +kernel)) ggX8_codesSinceClear_X8_told
theorem dX8_codesSinceClear_0 : decode cX8_codesSinceClear 0 = .ok (.aload_n 0, 1) := by decide +kernel
theorem dX8_codesSinceClear_1 : decode cX8_codesSinceClear 1 = .ok (.aload_n 0, 1) := by decide +kernel
theorem dX8_codesSinceClear_2 : decode cX8_codesSinceClear 2 = .ok (.getfield 17, 3) := by decide +kernel
theorem dX8_codesSinceClear_5 : decode cX8_codesSinceClear 5 = .ok (.bipush 7, 2) := by decide +kernel
theorem dX8_codesSinceClear_7 : decode cX8_codesSinceClear 7 = .ok (.iaload, 1) := by decide +kernel
theorem dX8_codesSinceClear_8 : decode cX8_codesSinceClear 8 = .ok (.aload_n 0, 1) := by decide +kernel
theorem dX8_codesSinceClear_9 : decode cX8_codesSinceClear 9 = .ok (.getfield 17, 3) := by decide +kernel
theorem dX8_codesSinceClear_12 : decode cX8_codesSinceClear 12 = .ok (.bipush 9, 2) := by decide +kernel
theorem dX8_codesSinceClear_14 : decode cX8_codesSinceClear 14 = .ok (.iaload, 1) := by decide +kernel
theorem dX8_codesSinceClear_15 : decode cX8_codesSinceClear 15 = .ok (.isub, 1) := by decide +kernel
theorem dX8_codesSinceClear_16 : decode cX8_codesSinceClear 16 = .ok (.invokevirtual 55, 3) := by decide +kernel
theorem dX8_codesSinceClear_19 : decode cX8_codesSinceClear 19 = .ok (.ireturn, 1) := by decide +kernel
set_option maxRecDepth 20000 in
theorem ggX8_symbolsSinceClear_X8_symbolsSince : GoodIn wsX8_symbolsSinceClear wsX8_symbolsSince := goodIn_r _ [5, 6, 7, 8, 9, 4, 10, 11, 12, 13, 14, 15, 16, 17, 18, 19, 20, 21, 22, 28, 29, 30, 31, 32, 33, 34, 35, 36, 37, 38, 39, 40, 41, 42, 43, 44, 45, 46, 47, 48, 49, 50, 51, 52, 53, 54] (by decide +kernel) (by decide +kernel)
set_option maxRecDepth 20000 in
theorem gX8_symbolsSinceClear_X8_symbolsSince : GoodIn wsX8_symbolsSinceClear (wsV RX8 114 RX8 yX8_symbolsSince wsX8_symbolsSince) := goodIn_app (goodIn_of _ (by decide +kernel)) ggX8_symbolsSinceClear_X8_symbolsSince
set_option maxRecDepth 20000 in
theorem ggX8_symbolsSinceClear_X8_told : GoodIn wsX8_symbolsSinceClear wsX8_told := goodIn_r _ [26, 27, 28, 29, 30, 31, 32, 33, 34, 35, 36, 37, 38, 39, 40, 41, 42, 43, 44, 45, 46, 47, 48, 49, 50, 51, 52, 53, 54] (by decide +kernel) (by decide +kernel)
set_option maxRecDepth 20000 in
theorem gX8_symbolsSinceClear_X8_told : GoodIn wsX8_symbolsSinceClear (wsV RX8 55 RX8 yX8_told wsX8_told) := goodIn_app (goodIn_of _ (by decide +kernel)) ggX8_symbolsSinceClear_X8_told
theorem dX8_symbolsSinceClear_0 : decode cX8_symbolsSinceClear 0 = .ok (.aload_n 0, 1) := by decide +kernel
theorem dX8_symbolsSinceClear_1 : decode cX8_symbolsSinceClear 1 = .ok (.aload_n 0, 1) := by decide +kernel
theorem dX8_symbolsSinceClear_2 : decode cX8_symbolsSinceClear 2 = .ok (.invokevirtual 114, 3) := by decide +kernel
theorem dX8_symbolsSinceClear_5 : decode cX8_symbolsSinceClear 5 = .ok (.invokevirtual 55, 3) := by decide +kernel
theorem dX8_symbolsSinceClear_8 : decode cX8_symbolsSinceClear 8 = .ok (.ireturn, 1) := by decide +kernel
set_option maxRecDepth 20000 in
theorem ggX8_bitsSinceClear_X8_bitsSince : GoodIn wsX8_bitsSinceClear wsX8_bitsSince := goodIn_r _ [5, 6, 7, 8, 9, 4, 10, 11, 12, 13, 14, 20, 21, 22, 23, 24, 25, 26, 27, 28, 29, 30, 31, 32, 33, 34, 35, 36, 37, 38, 39, 40, 41, 42, 43, 44, 45, 46] (by decide +kernel) (by decide +kernel)
set_option maxRecDepth 20000 in
theorem gX8_bitsSinceClear_X8_bitsSince : GoodIn wsX8_bitsSinceClear (wsV RX8 111 RX8 yX8_bitsSince wsX8_bitsSince) := goodIn_app (goodIn_of _ (by decide +kernel)) ggX8_bitsSinceClear_X8_bitsSince
set_option maxRecDepth 20000 in
theorem ggX8_bitsSinceClear_X8_told : GoodIn wsX8_bitsSinceClear wsX8_told := goodIn_r _ [18, 19, 20, 21, 22, 23, 24, 25, 26, 27, 28, 29, 30, 31, 32, 33, 34, 35, 36, 37, 38, 39, 40, 41, 42, 43, 44, 45, 46] (by decide +kernel) (by decide +kernel)
set_option maxRecDepth 20000 in
theorem gX8_bitsSinceClear_X8_told : GoodIn wsX8_bitsSinceClear (wsV RX8 55 RX8 yX8_told wsX8_told) := goodIn_app (goodIn_of _ (by decide +kernel)) ggX8_bitsSinceClear_X8_told
theorem dX8_bitsSinceClear_0 : decode cX8_bitsSinceClear 0 = .ok (.aload_n 0, 1) := by decide +kernel
theorem dX8_bitsSinceClear_1 : decode cX8_bitsSinceClear 1 = .ok (.aload_n 0, 1) := by decide +kernel
theorem dX8_bitsSinceClear_2 : decode cX8_bitsSinceClear 2 = .ok (.invokevirtual 111, 3) := by decide +kernel
theorem dX8_bitsSinceClear_5 : decode cX8_bitsSinceClear 5 = .ok (.invokevirtual 55, 3) := by decide +kernel
theorem dX8_bitsSinceClear_8 : decode cX8_bitsSinceClear 8 = .ok (.ireturn, 1) := by decide +kernel
set_option maxRecDepth 20000 in
theorem ggX8_percentSinceClear_X8_percent : GoodIn wsX8_percentSinceClear wsX8_percent := goodIn_r _ [5, 6, 7, 8, 4, 9, 10, 11, 12, 13, 14, 15, 16, 17, 18, 19, 20, 21, 22, 23, 24, 25, 26, 27, 28, 29, 30, 31, 32, 33, 34, 35, 36, 37, 38, 39, 40, 41, 42, 43, 44, 45, 46, 47, 48, 49, 55, 56, 57, 58, 59, 60, 61, 62, 63, 64, 65, 66, 67, 68, 69, 70, 71, 72, 73, 74, 75, 76, 77, 78, 79, 80, 81] (by decide +kernel) (by decide +kernel)
set_option maxRecDepth 20000 in
theorem gX8_percentSinceClear_X8_percent : GoodIn wsX8_percentSinceClear (wsV RX8 125 RX8 yX8_percent wsX8_percent) := goodIn_app (goodIn_of _ (by decide +kernel)) ggX8_percentSinceClear_X8_percent
set_option maxRecDepth 20000 in
theorem ggX8_percentSinceClear_X8_told : GoodIn wsX8_percentSinceClear wsX8_told := goodIn_r _ [53, 54, 55, 56, 57, 58, 59, 60, 61, 62, 63, 64, 65, 66, 67, 68, 69, 70, 71, 72, 73, 74, 75, 76, 77, 78, 79, 80, 81] (by decide +kernel) (by decide +kernel)
set_option maxRecDepth 20000 in
theorem gX8_percentSinceClear_X8_told : GoodIn wsX8_percentSinceClear (wsV RX8 55 RX8 yX8_told wsX8_told) := goodIn_app (goodIn_of _ (by decide +kernel)) ggX8_percentSinceClear_X8_told
theorem dX8_percentSinceClear_0 : decode cX8_percentSinceClear 0 = .ok (.aload_n 0, 1) := by decide +kernel
theorem dX8_percentSinceClear_1 : decode cX8_percentSinceClear 1 = .ok (.aload_n 0, 1) := by decide +kernel
theorem dX8_percentSinceClear_2 : decode cX8_percentSinceClear 2 = .ok (.invokevirtual 125, 3) := by decide +kernel
theorem dX8_percentSinceClear_5 : decode cX8_percentSinceClear 5 = .ok (.invokevirtual 55, 3) := by decide +kernel
theorem dX8_percentSinceClear_8 : decode cX8_percentSinceClear 8 = .ok (.ireturn, 1) := by decide +kernel
set_option maxRecDepth 20000 in
theorem ggX8_savedBits_X8_plain : GoodIn wsX8_savedBits wsX8_plain := goodIn_r _ [6, 1, 7, 8, 5, 9, 27, 28, 29, 30, 31, 32, 33, 34, 35, 36, 37, 38, 39, 40, 41, 42, 43, 44, 45, 46, 47, 48, 49, 50, 51, 52, 53] (by decide +kernel) (by decide +kernel)
set_option maxRecDepth 20000 in
theorem gX8_savedBits_X8_plain : GoodIn wsX8_savedBits (wsV RX8 108 RX8 yX8_plain wsX8_plain) := goodIn_app (goodIn_of _ (by decide +kernel)) ggX8_savedBits_X8_plain
set_option maxRecDepth 20000 in
theorem ggX8_savedBits_X8_allBits : GoodIn wsX8_savedBits wsX8_allBits := goodIn_r _ [13, 14, 15, 16, 5, 17, 1, 18, 19, 20, 21, 27, 28, 29, 30, 31, 32, 33, 34, 35, 36, 37, 38, 39, 40, 41, 42, 43, 44, 45, 46, 47, 48, 49, 50, 51, 52, 53] (by decide +kernel) (by decide +kernel)
set_option maxRecDepth 20000 in
theorem gX8_savedBits_X8_allBits : GoodIn wsX8_savedBits (wsV RX8 344 RX8 yX8_allBits wsX8_allBits) := goodIn_app (goodIn_of _ (by decide +kernel)) ggX8_savedBits_X8_allBits
set_option maxRecDepth 20000 in
theorem ggX8_savedBits_X8_told : GoodIn wsX8_savedBits wsX8_told := goodIn_r _ [25, 26, 27, 28, 29, 30, 31, 32, 33, 34, 35, 36, 37, 38, 39, 40, 41, 42, 43, 44, 45, 46, 47, 48, 49, 50, 51, 52, 53] (by decide +kernel) (by decide +kernel)
set_option maxRecDepth 20000 in
theorem gX8_savedBits_X8_told : GoodIn wsX8_savedBits (wsV RX8 55 RX8 yX8_told wsX8_told) := goodIn_app (goodIn_of _ (by decide +kernel)) ggX8_savedBits_X8_told
theorem dX8_savedBits_0 : decode cX8_savedBits 0 = .ok (.aload_n 0, 1) := by decide +kernel
theorem dX8_savedBits_1 : decode cX8_savedBits 1 = .ok (.aload_n 0, 1) := by decide +kernel
theorem dX8_savedBits_2 : decode cX8_savedBits 2 = .ok (.getfield 17, 3) := by decide +kernel
theorem dX8_savedBits_5 : decode cX8_savedBits 5 = .ok (.bipush 13, 2) := by decide +kernel
theorem dX8_savedBits_7 : decode cX8_savedBits 7 = .ok (.iaload, 1) := by decide +kernel
theorem dX8_savedBits_8 : decode cX8_savedBits 8 = .ok (.aload_n 0, 1) := by decide +kernel
theorem dX8_savedBits_9 : decode cX8_savedBits 9 = .ok (.invokevirtual 108, 3) := by decide +kernel
theorem dX8_savedBits_12 : decode cX8_savedBits 12 = .ok (.imul, 1) := by decide +kernel
theorem dX8_savedBits_13 : decode cX8_savedBits 13 = .ok (.aload_n 0, 1) := by decide +kernel
theorem dX8_savedBits_14 : decode cX8_savedBits 14 = .ok (.invokevirtual 344, 3) := by decide +kernel
theorem dX8_savedBits_17 : decode cX8_savedBits 17 = .ok (.isub, 1) := by decide +kernel
theorem dX8_savedBits_18 : decode cX8_savedBits 18 = .ok (.invokevirtual 55, 3) := by decide +kernel
theorem dX8_savedBits_21 : decode cX8_savedBits 21 = .ok (.ireturn, 1) := by decide +kernel
set_option maxRecDepth 20000 in
theorem ggX8_bitsPerSymbol_X8_allBits : GoodIn wsX8_bitsPerSymbol wsX8_allBits := goodIn_r _ [7, 8, 9, 10, 6, 11, 2, 12, 13, 14, 15, 16, 17, 18, 19, 20, 21, 22, 23, 24, 25, 26, 27, 28, 29, 30, 31, 32, 33, 34, 35, 36, 37, 38, 39, 40, 41, 42] (by decide +kernel) (by decide +kernel)
set_option maxRecDepth 20000 in
theorem gX8_bitsPerSymbol_X8_allBits : GoodIn wsX8_bitsPerSymbol (wsV RX8 344 RX8 yX8_allBits wsX8_allBits) := goodIn_app (goodIn_of _ (by decide +kernel)) ggX8_bitsPerSymbol_X8_allBits
theorem dX8_bitsPerSymbol_0 : decode cX8_bitsPerSymbol 0 = .ok (.aload_n 0, 1) := by decide +kernel
theorem dX8_bitsPerSymbol_1 : decode cX8_bitsPerSymbol 1 = .ok (.iconst 0, 1) := by decide +kernel
theorem dX8_bitsPerSymbol_2 : decode cX8_bitsPerSymbol 2 = .ok (.putfield 49, 3) := by decide +kernel
theorem dX8_bitsPerSymbol_5 : decode cX8_bitsPerSymbol 5 = .ok (.aload_n 0, 1) := by decide +kernel
theorem dX8_bitsPerSymbol_6 : decode cX8_bitsPerSymbol 6 = .ok (.getfield 17, 3) := by decide +kernel
theorem dX8_bitsPerSymbol_9 : decode cX8_bitsPerSymbol 9 = .ok (.bipush 13, 2) := by decide +kernel
theorem dX8_bitsPerSymbol_11 : decode cX8_bitsPerSymbol 11 = .ok (.iaload, 1) := by decide +kernel
theorem dX8_bitsPerSymbol_12 : decode cX8_bitsPerSymbol 12 = .ok (.ifCond .ne 5, 3) := by decide +kernel
theorem dX8_bitsPerSymbol_15 : decode cX8_bitsPerSymbol 15 = .ok (.dconst 0, 1) := by decide +kernel
theorem dX8_bitsPerSymbol_16 : decode cX8_bitsPerSymbol 16 = .ok (.dreturn, 1) := by decide +kernel
theorem dX8_bitsPerSymbol_17 : decode cX8_bitsPerSymbol 17 = .ok (.aload_n 0, 1) := by decide +kernel
theorem dX8_bitsPerSymbol_18 : decode cX8_bitsPerSymbol 18 = .ok (.invokevirtual 344, 3) := by decide +kernel
theorem dX8_bitsPerSymbol_21 : decode cX8_bitsPerSymbol 21 = .ok (.i2d, 1) := by decide +kernel
theorem dX8_bitsPerSymbol_22 : decode cX8_bitsPerSymbol 22 = .ok (.aload_n 0, 1) := by decide +kernel
theorem dX8_bitsPerSymbol_23 : decode cX8_bitsPerSymbol 23 = .ok (.getfield 17, 3) := by decide +kernel
theorem dX8_bitsPerSymbol_26 : decode cX8_bitsPerSymbol 26 = .ok (.bipush 13, 2) := by decide +kernel
theorem dX8_bitsPerSymbol_28 : decode cX8_bitsPerSymbol 28 = .ok (.iaload, 1) := by decide +kernel
theorem dX8_bitsPerSymbol_29 : decode cX8_bitsPerSymbol 29 = .ok (.i2d, 1) := by decide +kernel
theorem dX8_bitsPerSymbol_30 : decode cX8_bitsPerSymbol 30 = .ok (.ddiv, 1) := by decide +kernel
theorem dX8_bitsPerSymbol_31 : decode cX8_bitsPerSymbol 31 = .ok (.dreturn, 1) := by decide +kernel
set_option maxRecDepth 20000 in
theorem ggX8_fillShare_X8_mostCodes : GoodIn wsX8_fillShare wsX8_mostCodes := goodIn_r _ [7, 2, 8, 9, 10, 11, 12, 13, 14, 15, 16, 17, 18, 19, 20, 21, 22, 23, 24, 25, 26, 27, 28, 29, 30, 31, 32, 33, 34] (by decide +kernel) (by decide +kernel)
set_option maxRecDepth 20000 in
theorem gX8_fillShare_X8_mostCodes : GoodIn wsX8_fillShare (wsV RX8 76 RX8 yX8_mostCodes wsX8_mostCodes) := goodIn_app (goodIn_of _ (by decide +kernel)) ggX8_fillShare_X8_mostCodes
theorem dX8_fillShare_0 : decode cX8_fillShare 0 = .ok (.aload_n 0, 1) := by decide +kernel
theorem dX8_fillShare_1 : decode cX8_fillShare 1 = .ok (.iconst 0, 1) := by decide +kernel
theorem dX8_fillShare_2 : decode cX8_fillShare 2 = .ok (.putfield 49, 3) := by decide +kernel
theorem dX8_fillShare_5 : decode cX8_fillShare 5 = .ok (.aload_n 0, 1) := by decide +kernel
theorem dX8_fillShare_6 : decode cX8_fillShare 6 = .ok (.getfield 17, 3) := by decide +kernel
theorem dX8_fillShare_9 : decode cX8_fillShare 9 = .ok (.iconst 4, 1) := by decide +kernel
theorem dX8_fillShare_10 : decode cX8_fillShare 10 = .ok (.iaload, 1) := by decide +kernel
theorem dX8_fillShare_11 : decode cX8_fillShare 11 = .ok (.i2f, 1) := by decide +kernel
theorem dX8_fillShare_12 : decode cX8_fillShare 12 = .ok (.aload_n 0, 1) := by decide +kernel
theorem dX8_fillShare_13 : decode cX8_fillShare 13 = .ok (.invokevirtual 76, 3) := by decide +kernel
theorem dX8_fillShare_16 : decode cX8_fillShare 16 = .ok (.i2f, 1) := by decide +kernel
theorem dX8_fillShare_17 : decode cX8_fillShare 17 = .ok (.fdiv, 1) := by decide +kernel
theorem dX8_fillShare_18 : decode cX8_fillShare 18 = .ok (.freturn, 1) := by decide +kernel
set_option maxRecDepth 20000 in
theorem ggX8_decodedCount_X8_told : GoodIn wsX8_decodedCount wsX8_told := goodIn_r _ [6, 7, 8, 9, 10, 11, 12, 13, 14, 15, 16, 17, 18, 19, 20, 21, 22, 23, 24, 25, 26, 27, 28, 29, 30, 31, 32, 33, 34] (by decide +kernel) (by decide +kernel)
set_option maxRecDepth 20000 in
theorem gX8_decodedCount_X8_told : GoodIn wsX8_decodedCount (wsV RX8 55 RX8 yX8_told wsX8_told) := goodIn_app (goodIn_of _ (by decide +kernel)) ggX8_decodedCount_X8_told
theorem dX8_decodedCount_0 : decode cX8_decodedCount 0 = .ok (.aload_n 0, 1) := by decide +kernel
theorem dX8_decodedCount_1 : decode cX8_decodedCount 1 = .ok (.aload_n 0, 1) := by decide +kernel
theorem dX8_decodedCount_2 : decode cX8_decodedCount 2 = .ok (.getfield 307, 3) := by decide +kernel
theorem dX8_decodedCount_5 : decode cX8_decodedCount 5 = .ok (.invokevirtual 55, 3) := by decide +kernel
theorem dX8_decodedCount_8 : decode cX8_decodedCount 8 = .ok (.ireturn, 1) := by decide +kernel
set_option maxRecDepth 20000 in
theorem ggX8_decodedSymbol_X8_in : GoodIn wsX8_decodedSymbol wsX8_in := goodIn_r _ [6] (by decide +kernel) (by decide +kernel)
set_option maxRecDepth 20000 in
theorem gX8_decodedSymbol_X8_in : GoodIn wsX8_decodedSymbol (va_wsS RX8 62 yX8_in wsX8_in) := goodIn_app (goodIn_of _ (by decide +kernel)) ggX8_decodedSymbol_X8_in
set_option maxRecDepth 20000 in
theorem ggX8_decodedSymbol_X8_throwing : GoodIn wsX8_decodedSymbol wsX8_throwing := goodIn_r _ [10, 11, 16, 17, 18, 19, 20, 21, 22, 23, 24, 25, 26, 27, 28, 29, 30, 31, 32, 33, 34, 35, 36, 37, 38, 39, 40, 41, 42] (by decide +kernel) (by decide +kernel)
set_option maxRecDepth 20000 in
theorem gX8_decodedSymbol_X8_throwing : GoodIn wsX8_decodedSymbol (wsV RX8 59 RX8 yX8_throwing wsX8_throwing) := goodIn_app (goodIn_of _ (by decide +kernel)) ggX8_decodedSymbol_X8_throwing
set_option maxRecDepth 20000 in
theorem ggX8_decodedSymbol_X8_told : GoodIn wsX8_decodedSymbol wsX8_told := goodIn_r _ [15, 11, 16, 17, 18, 19, 20, 21, 22, 23, 24, 25, 26, 27, 28, 29, 30, 31, 32, 33, 34, 35, 36, 37, 38, 39, 40, 41, 42] (by decide +kernel) (by decide +kernel)
set_option maxRecDepth 20000 in
theorem gX8_decodedSymbol_X8_told : GoodIn wsX8_decodedSymbol (wsV RX8 55 RX8 yX8_told wsX8_told) := goodIn_app (goodIn_of _ (by decide +kernel)) ggX8_decodedSymbol_X8_told
theorem dX8_decodedSymbol_0 : decode cX8_decodedSymbol 0 = .ok (.iload_n 1, 1) := by decide +kernel
theorem dX8_decodedSymbol_1 : decode cX8_decodedSymbol 1 = .ok (.iconst 0, 1) := by decide +kernel
theorem dX8_decodedSymbol_2 : decode cX8_decodedSymbol 2 = .ok (.aload_n 0, 1) := by decide +kernel
theorem dX8_decodedSymbol_3 : decode cX8_decodedSymbol 3 = .ok (.getfield 307, 3) := by decide +kernel
theorem dX8_decodedSymbol_6 : decode cX8_decodedSymbol 6 = .ok (.iconst 1, 1) := by decide +kernel
theorem dX8_decodedSymbol_7 : decode cX8_decodedSymbol 7 = .ok (.isub, 1) := by decide +kernel
theorem dX8_decodedSymbol_8 : decode cX8_decodedSymbol 8 = .ok (.invokestatic 62, 3) := by decide +kernel
theorem dX8_decodedSymbol_11 : decode cX8_decodedSymbol 11 = .ok (.ifCond .ne 9, 3) := by decide +kernel
theorem dX8_decodedSymbol_14 : decode cX8_decodedSymbol 14 = .ok (.aload_n 0, 1) := by decide +kernel
theorem dX8_decodedSymbol_15 : decode cX8_decodedSymbol 15 = .ok (.iconst 1, 1) := by decide +kernel
theorem dX8_decodedSymbol_16 : decode cX8_decodedSymbol 16 = .ok (.invokevirtual 59, 3) := by decide +kernel
theorem dX8_decodedSymbol_19 : decode cX8_decodedSymbol 19 = .ok (.ireturn, 1) := by decide +kernel
theorem dX8_decodedSymbol_20 : decode cX8_decodedSymbol 20 = .ok (.aload_n 0, 1) := by decide +kernel
theorem dX8_decodedSymbol_21 : decode cX8_decodedSymbol 21 = .ok (.aload_n 0, 1) := by decide +kernel
theorem dX8_decodedSymbol_22 : decode cX8_decodedSymbol 22 = .ok (.getfield 43, 3) := by decide +kernel
theorem dX8_decodedSymbol_25 : decode cX8_decodedSymbol 25 = .ok (.iload_n 1, 1) := by decide +kernel
theorem dX8_decodedSymbol_26 : decode cX8_decodedSymbol 26 = .ok (.iaload, 1) := by decide +kernel
theorem dX8_decodedSymbol_27 : decode cX8_decodedSymbol 27 = .ok (.invokevirtual 55, 3) := by decide +kernel
theorem dX8_decodedSymbol_30 : decode cX8_decodedSymbol 30 = .ok (.ireturn, 1) := by decide +kernel
set_option maxRecDepth 20000 in
theorem ggX8_longestDecodedRun_X8_more : GoodIn wsX8_longestDecodedRun wsX8_more := goodIn_r _ [6] (by decide +kernel) (by decide +kernel)
set_option maxRecDepth 20000 in
theorem gX8_longestDecodedRun_X8_more : GoodIn wsX8_longestDecodedRun (va_wsS RX8 278 yX8_more wsX8_more) := goodIn_app (goodIn_of _ (by decide +kernel)) ggX8_longestDecodedRun_X8_more
set_option maxRecDepth 20000 in
theorem ggX8_longestDecodedRun_X8_told : GoodIn wsX8_longestDecodedRun wsX8_told := goodIn_r _ [10, 11, 12, 13, 14, 15, 16, 17, 18, 19, 20, 21, 22, 23, 24, 25, 26, 27, 28, 29, 30, 31, 32, 33, 34, 35, 36, 37, 38] (by decide +kernel) (by decide +kernel)
set_option maxRecDepth 20000 in
theorem gX8_longestDecodedRun_X8_told : GoodIn wsX8_longestDecodedRun (wsV RX8 55 RX8 yX8_told wsX8_told) := goodIn_app (goodIn_of _ (by decide +kernel)) ggX8_longestDecodedRun_X8_told
theorem dX8_longestDecodedRun_0 : decode cX8_longestDecodedRun 0 = .ok (.iconst 0, 1) := by decide +kernel
theorem dX8_longestDecodedRun_1 : decode cX8_longestDecodedRun 1 = .ok (.istore_n 1, 1) := by decide +kernel
theorem dX8_longestDecodedRun_2 : decode cX8_longestDecodedRun 2 = .ok (.iconst 0, 1) := by decide +kernel
theorem dX8_longestDecodedRun_3 : decode cX8_longestDecodedRun 3 = .ok (.istore_n 2, 1) := by decide +kernel
theorem dX8_longestDecodedRun_4 : decode cX8_longestDecodedRun 4 = .ok (.iconst 0, 1) := by decide +kernel
theorem dX8_longestDecodedRun_5 : decode cX8_longestDecodedRun 5 = .ok (.istore_n 3, 1) := by decide +kernel
theorem dX8_longestDecodedRun_6 : decode cX8_longestDecodedRun 6 = .ok (.iload_n 3, 1) := by decide +kernel
theorem dX8_longestDecodedRun_7 : decode cX8_longestDecodedRun 7 = .ok (.aload_n 0, 1) := by decide +kernel
theorem dX8_longestDecodedRun_8 : decode cX8_longestDecodedRun 8 = .ok (.getfield 307, 3) := by decide +kernel
theorem dX8_longestDecodedRun_11 : decode cX8_longestDecodedRun 11 = .ok (.if_icmp .ge 56, 3) := by decide +kernel
theorem dX8_longestDecodedRun_14 : decode cX8_longestDecodedRun 14 = .ok (.iload_n 3, 1) := by decide +kernel
theorem dX8_longestDecodedRun_15 : decode cX8_longestDecodedRun 15 = .ok (.ifCond .le 24, 3) := by decide +kernel
theorem dX8_longestDecodedRun_18 : decode cX8_longestDecodedRun 18 = .ok (.aload_n 0, 1) := by decide +kernel
theorem dX8_longestDecodedRun_19 : decode cX8_longestDecodedRun 19 = .ok (.getfield 43, 3) := by decide +kernel
theorem dX8_longestDecodedRun_22 : decode cX8_longestDecodedRun 22 = .ok (.iload_n 3, 1) := by decide +kernel
theorem dX8_longestDecodedRun_23 : decode cX8_longestDecodedRun 23 = .ok (.iaload, 1) := by decide +kernel
theorem dX8_longestDecodedRun_24 : decode cX8_longestDecodedRun 24 = .ok (.aload_n 0, 1) := by decide +kernel
theorem dX8_longestDecodedRun_25 : decode cX8_longestDecodedRun 25 = .ok (.getfield 43, 3) := by decide +kernel
theorem dX8_longestDecodedRun_28 : decode cX8_longestDecodedRun 28 = .ok (.iload_n 3, 1) := by decide +kernel
theorem dX8_longestDecodedRun_29 : decode cX8_longestDecodedRun 29 = .ok (.iconst 1, 1) := by decide +kernel
theorem dX8_longestDecodedRun_30 : decode cX8_longestDecodedRun 30 = .ok (.isub, 1) := by decide +kernel
theorem dX8_longestDecodedRun_31 : decode cX8_longestDecodedRun 31 = .ok (.iaload, 1) := by decide +kernel
theorem dX8_longestDecodedRun_32 : decode cX8_longestDecodedRun 32 = .ok (.if_icmp .ne 7, 3) := by decide +kernel
theorem dX8_longestDecodedRun_35 : decode cX8_longestDecodedRun 35 = .ok (.iconst 1, 1) := by decide +kernel
theorem dX8_longestDecodedRun_36 : decode cX8_longestDecodedRun 36 = .ok (.goto 4, 3) := by decide +kernel
theorem dX8_longestDecodedRun_39 : decode cX8_longestDecodedRun 39 = .ok (.iconst 0, 1) := by decide +kernel
theorem dX8_longestDecodedRun_40 : decode cX8_longestDecodedRun 40 = .ok (.istore 4, 2) := by decide +kernel
theorem dX8_longestDecodedRun_42 : decode cX8_longestDecodedRun 42 = .ok (.iload 4, 2) := by decide +kernel
theorem dX8_longestDecodedRun_44 : decode cX8_longestDecodedRun 44 = .ok (.ifCond .eq 9, 3) := by decide +kernel
theorem dX8_longestDecodedRun_47 : decode cX8_longestDecodedRun 47 = .ok (.iload_n 2, 1) := by decide +kernel
theorem dX8_longestDecodedRun_48 : decode cX8_longestDecodedRun 48 = .ok (.iconst 1, 1) := by decide +kernel
theorem dX8_longestDecodedRun_49 : decode cX8_longestDecodedRun 49 = .ok (.iadd, 1) := by decide +kernel
theorem dX8_longestDecodedRun_50 : decode cX8_longestDecodedRun 50 = .ok (.goto 4, 3) := by decide +kernel
theorem dX8_longestDecodedRun_53 : decode cX8_longestDecodedRun 53 = .ok (.iconst 1, 1) := by decide +kernel
theorem dX8_longestDecodedRun_54 : decode cX8_longestDecodedRun 54 = .ok (.istore_n 2, 1) := by decide +kernel
theorem dX8_longestDecodedRun_55 : decode cX8_longestDecodedRun 55 = .ok (.iload_n 1, 1) := by decide +kernel
theorem dX8_longestDecodedRun_56 : decode cX8_longestDecodedRun 56 = .ok (.iload_n 2, 1) := by decide +kernel
theorem dX8_longestDecodedRun_57 : decode cX8_longestDecodedRun 57 = .ok (.invokestatic 278, 3) := by decide +kernel
theorem dX8_longestDecodedRun_60 : decode cX8_longestDecodedRun 60 = .ok (.istore_n 1, 1) := by decide +kernel
theorem dX8_longestDecodedRun_61 : decode cX8_longestDecodedRun 61 = .ok (.iinc 3 1, 3) := by decide +kernel
theorem dX8_longestDecodedRun_64 : decode cX8_longestDecodedRun 64 = .ok (.goto (-58), 3) := by decide +kernel
theorem dX8_longestDecodedRun_67 : decode cX8_longestDecodedRun 67 = .ok (.aload_n 0, 1) := by decide +kernel
theorem dX8_longestDecodedRun_68 : decode cX8_longestDecodedRun 68 = .ok (.iload_n 1, 1) := by decide +kernel
theorem dX8_longestDecodedRun_69 : decode cX8_longestDecodedRun 69 = .ok (.invokevirtual 55, 3) := by decide +kernel
theorem dX8_longestDecodedRun_72 : decode cX8_longestDecodedRun 72 = .ok (.ireturn, 1) := by decide +kernel
set_option maxRecDepth 20000 in
theorem ggX8_restoredCount_X8_decodesWritten : GoodIn wsX8_restoredCount wsX8_decodesWritten := goodIn_r _ [6, 7, 8, 9, 10, 5, 11, 12, 13, 1, 14, 15, 16, 17, 18, 19, 20, 21, 22, 23, 24, 25, 26, 27, 28, 29, 30, 31, 32, 33, 34, 35, 36, 37, 38, 39, 40, 41, 42, 43, 44, 45, 46, 47, 48, 49, 50, 51, 52, 53, 54, 55, 56, 57, 58, 59, 60, 61, 62, 63, 64, 65, 66, 67, 68, 69, 70, 71, 72, 73, 74, 75, 81, 82, 83, 84, 85, 86, 87, 88, 89, 90, 91, 92, 93, 94, 95, 96, 97, 98, 99, 100, 101, 102, 103, 104, 105, 106, 107] (by decide +kernel) (by decide +kernel)
set_option maxRecDepth 20000 in
theorem gX8_restoredCount_X8_decodesWritten : GoodIn wsX8_restoredCount (wsV RX8 353 RX8 yX8_decodesWritten wsX8_decodesWritten) := goodIn_app (goodIn_of _ (by decide +kernel)) ggX8_restoredCount_X8_decodesWritten
set_option maxRecDepth 20000 in
theorem ggX8_restoredCount_X8_told : GoodIn wsX8_restoredCount wsX8_told := goodIn_r _ [79, 80, 81, 82, 83, 84, 85, 86, 87, 88, 89, 90, 91, 92, 93, 94, 95, 96, 97, 98, 99, 100, 101, 102, 103, 104, 105, 106, 107] (by decide +kernel) (by decide +kernel)
set_option maxRecDepth 20000 in
theorem gX8_restoredCount_X8_told : GoodIn wsX8_restoredCount (wsV RX8 55 RX8 yX8_told wsX8_told) := goodIn_app (goodIn_of _ (by decide +kernel)) ggX8_restoredCount_X8_told
theorem dX8_restoredCount_0 : decode cX8_restoredCount 0 = .ok (.aload_n 0, 1) := by decide +kernel
theorem dX8_restoredCount_1 : decode cX8_restoredCount 1 = .ok (.invokevirtual 353, 3) := by decide +kernel
theorem dX8_restoredCount_4 : decode cX8_restoredCount 4 = .ok (.aload_n 0, 1) := by decide +kernel
theorem dX8_restoredCount_5 : decode cX8_restoredCount 5 = .ok (.aload_n 0, 1) := by decide +kernel
theorem dX8_restoredCount_6 : decode cX8_restoredCount 6 = .ok (.getfield 178, 3) := by decide +kernel
theorem dX8_restoredCount_9 : decode cX8_restoredCount 9 = .ok (.invokevirtual 55, 3) := by decide +kernel
theorem dX8_restoredCount_12 : decode cX8_restoredCount 12 = .ok (.ireturn, 1) := by decide +kernel
theorem dX8_areEncoded_0 : decode cX8_areEncoded 0 = .ok (.iconst 1, 1) := by decide +kernel
theorem dX8_areEncoded_1 : decode cX8_areEncoded 1 = .ok (.istore_n 1, 1) := by decide +kernel
theorem dX8_areEncoded_2 : decode cX8_areEncoded 2 = .ok (.iconst 0, 1) := by decide +kernel
theorem dX8_areEncoded_3 : decode cX8_areEncoded 3 = .ok (.istore_n 2, 1) := by decide +kernel
theorem dX8_areEncoded_4 : decode cX8_areEncoded 4 = .ok (.iload_n 2, 1) := by decide +kernel
theorem dX8_areEncoded_5 : decode cX8_areEncoded 5 = .ok (.aload_n 0, 1) := by decide +kernel
theorem dX8_areEncoded_6 : decode cX8_areEncoded 6 = .ok (.getfield 178, 3) := by decide +kernel
theorem dX8_areEncoded_9 : decode cX8_areEncoded 9 = .ok (.if_icmp .ge 38, 3) := by decide +kernel
theorem dX8_areEncoded_12 : decode cX8_areEncoded 12 = .ok (.iload_n 1, 1) := by decide +kernel
theorem dX8_areEncoded_13 : decode cX8_areEncoded 13 = .ok (.ifCond .eq 34, 3) := by decide +kernel
theorem dX8_areEncoded_16 : decode cX8_areEncoded 16 = .ok (.aload_n 0, 1) := by decide +kernel
theorem dX8_areEncoded_17 : decode cX8_areEncoded 17 = .ok (.getfield 40, 3) := by decide +kernel
theorem dX8_areEncoded_20 : decode cX8_areEncoded 20 = .ok (.iload_n 2, 1) := by decide +kernel
theorem dX8_areEncoded_21 : decode cX8_areEncoded 21 = .ok (.iaload, 1) := by decide +kernel
theorem dX8_areEncoded_22 : decode cX8_areEncoded 22 = .ok (.aload_n 0, 1) := by decide +kernel
theorem dX8_areEncoded_23 : decode cX8_areEncoded 23 = .ok (.getfield 17, 3) := by decide +kernel
theorem dX8_areEncoded_26 : decode cX8_areEncoded 26 = .ok (.sipush 526, 3) := by decide +kernel
theorem dX8_areEncoded_29 : decode cX8_areEncoded 29 = .ok (.iload_n 2, 1) := by decide +kernel
theorem dX8_areEncoded_30 : decode cX8_areEncoded 30 = .ok (.iadd, 1) := by decide +kernel
theorem dX8_areEncoded_31 : decode cX8_areEncoded 31 = .ok (.iaload, 1) := by decide +kernel
theorem dX8_areEncoded_32 : decode cX8_areEncoded 32 = .ok (.if_icmp .ne 7, 3) := by decide +kernel
theorem dX8_areEncoded_35 : decode cX8_areEncoded 35 = .ok (.iconst 1, 1) := by decide +kernel
theorem dX8_areEncoded_36 : decode cX8_areEncoded 36 = .ok (.goto 4, 3) := by decide +kernel
theorem dX8_areEncoded_39 : decode cX8_areEncoded 39 = .ok (.iconst 0, 1) := by decide +kernel
theorem dX8_areEncoded_40 : decode cX8_areEncoded 40 = .ok (.istore_n 1, 1) := by decide +kernel
theorem dX8_areEncoded_41 : decode cX8_areEncoded 41 = .ok (.iinc 2 1, 3) := by decide +kernel
theorem dX8_areEncoded_44 : decode cX8_areEncoded 44 = .ok (.goto (-40), 3) := by decide +kernel
theorem dX8_areEncoded_47 : decode cX8_areEncoded 47 = .ok (.iload_n 1, 1) := by decide +kernel
theorem dX8_areEncoded_48 : decode cX8_areEncoded 48 = .ok (.ireturn, 1) := by decide +kernel
set_option maxRecDepth 20000 in
theorem ggX8_isRestored_X8_decodesWritten : GoodIn wsX8_isRestored wsX8_decodesWritten := goodIn_r _ [7, 2, 8, 9, 10, 6, 11, 12, 13, 1, 14, 15, 16, 17, 18, 19, 20, 21, 22, 23, 24, 25, 26, 27, 28, 29, 30, 31, 32, 33, 34, 35, 36, 37, 38, 39, 40, 41, 42, 43, 44, 45, 46, 47, 48, 49, 50, 51, 52, 53, 54, 55, 56, 57, 58, 59, 60, 61, 62, 63, 64, 65, 66, 67, 68, 69, 70, 71, 72, 73, 74, 75, 85, 86, 87, 88, 89, 90, 91, 92, 93, 94, 95, 96, 97, 98, 99, 100, 101, 102, 103, 104, 105, 106, 107, 108, 109, 110, 111] (by decide +kernel) (by decide +kernel)
set_option maxRecDepth 20000 in
theorem gX8_isRestored_X8_decodesWritten : GoodIn wsX8_isRestored (wsV RX8 353 RX8 yX8_decodesWritten wsX8_decodesWritten) := goodIn_app (goodIn_of _ (by decide +kernel)) ggX8_isRestored_X8_decodesWritten
set_option maxRecDepth 20000 in
theorem ggX8_isRestored_X8_toldIf : GoodIn wsX8_isRestored wsX8_toldIf := goodIn_r _ [79, 80, 85, 86, 87, 88, 89, 90, 91, 92, 93, 94, 95, 96, 97, 98, 99, 100, 101, 102, 103, 104, 105, 106, 107, 108, 109, 110, 111] (by decide +kernel) (by decide +kernel)
set_option maxRecDepth 20000 in
theorem gX8_isRestored_X8_toldIf : GoodIn wsX8_isRestored (wsV RX8 316 RX8 yX8_toldIf wsX8_toldIf) := goodIn_app (goodIn_of _ (by decide +kernel)) ggX8_isRestored_X8_toldIf
set_option maxRecDepth 20000 in
theorem ggX8_isRestored_X8_areEncoded : GoodIn wsX8_isRestored wsX8_areEncoded := goodIn_r _ [84, 1, 75, 2, 85, 86, 87, 88, 89, 90, 91, 92, 93, 94, 95, 96, 97, 98, 99, 100, 101, 102, 103, 104, 105, 106, 107, 108, 109, 110, 111] (by decide +kernel) (by decide +kernel)
set_option maxRecDepth 20000 in
theorem gX8_isRestored_X8_areEncoded : GoodIn wsX8_isRestored (wsV RX8 356 RX8 yX8_areEncoded wsX8_areEncoded) := goodIn_app (goodIn_of _ (by decide +kernel)) ggX8_isRestored_X8_areEncoded
theorem dX8_isRestored_0 : decode cX8_isRestored 0 = .ok (.aload_n 0, 1) := by decide +kernel
theorem dX8_isRestored_1 : decode cX8_isRestored 1 = .ok (.invokevirtual 353, 3) := by decide +kernel
theorem dX8_isRestored_4 : decode cX8_isRestored 4 = .ok (.aload_n 0, 1) := by decide +kernel
theorem dX8_isRestored_5 : decode cX8_isRestored 5 = .ok (.getfield 178, 3) := by decide +kernel
theorem dX8_isRestored_8 : decode cX8_isRestored 8 = .ok (.aload_n 0, 1) := by decide +kernel
theorem dX8_isRestored_9 : decode cX8_isRestored 9 = .ok (.getfield 17, 3) := by decide +kernel
theorem dX8_isRestored_12 : decode cX8_isRestored 12 = .ok (.bipush 13, 2) := by decide +kernel
theorem dX8_isRestored_14 : decode cX8_isRestored 14 = .ok (.iaload, 1) := by decide +kernel
theorem dX8_isRestored_15 : decode cX8_isRestored 15 = .ok (.if_icmp .eq 9, 3) := by decide +kernel
theorem dX8_isRestored_18 : decode cX8_isRestored 18 = .ok (.aload_n 0, 1) := by decide +kernel
theorem dX8_isRestored_19 : decode cX8_isRestored 19 = .ok (.iconst 0, 1) := by decide +kernel
theorem dX8_isRestored_20 : decode cX8_isRestored 20 = .ok (.invokevirtual 316, 3) := by decide +kernel
theorem dX8_isRestored_23 : decode cX8_isRestored 23 = .ok (.ireturn, 1) := by decide +kernel
theorem dX8_isRestored_24 : decode cX8_isRestored 24 = .ok (.aload_n 0, 1) := by decide +kernel
theorem dX8_isRestored_25 : decode cX8_isRestored 25 = .ok (.aload_n 0, 1) := by decide +kernel
theorem dX8_isRestored_26 : decode cX8_isRestored 26 = .ok (.invokevirtual 356, 3) := by decide +kernel
theorem dX8_isRestored_29 : decode cX8_isRestored 29 = .ok (.invokevirtual 316, 3) := by decide +kernel
theorem dX8_isRestored_32 : decode cX8_isRestored 32 = .ok (.ireturn, 1) := by decide +kernel
theorem dX8_says_0 : decode cX8_says 0 = .ok (.aload_n 0, 1) := by decide +kernel
theorem dX8_says_1 : decode cX8_says 1 = .ok (.getfield 46, 3) := by decide +kernel
theorem dX8_says_4 : decode cX8_says 4 = .ok (.aload_n 0, 1) := by decide +kernel
theorem dX8_says_5 : decode cX8_says 5 = .ok (.getfield 359, 3) := by decide +kernel
theorem dX8_says_8 : decode cX8_says 8 = .ok (.iload_n 1, 1) := by decide +kernel
theorem dX8_says_9 : decode cX8_says 9 = .ok (.i2b, 1) := by decide +kernel
theorem dX8_says_10 : decode cX8_says 10 = .ok (.bastore, 1) := by decide +kernel
theorem dX8_says_11 : decode cX8_says 11 = .ok (.aload_n 0, 1) := by decide +kernel
theorem dX8_says_12 : decode cX8_says 12 = .ok (.dup, 1) := by decide +kernel
theorem dX8_says_13 : decode cX8_says 13 = .ok (.getfield 359, 3) := by decide +kernel
theorem dX8_says_16 : decode cX8_says 16 = .ok (.iconst 1, 1) := by decide +kernel
theorem dX8_says_17 : decode cX8_says 17 = .ok (.iadd, 1) := by decide +kernel
theorem dX8_says_18 : decode cX8_says 18 = .ok (.putfield 359, 3) := by decide +kernel
theorem dX8_says_21 : decode cX8_says 21 = .ok (.return_, 1) := by decide +kernel
set_option maxRecDepth 20000 in
theorem ggX8_saysWord_X8_says : GoodIn wsX8_saysWord wsX8_says := goodIn_r _ [6, 7, 8, 9, 10, 11, 12, 13, 14, 15, 16, 17, 18, 19, 20, 21, 22, 23, 24, 25, 26, 27, 28, 29, 30, 31, 32, 33, 34, 35] (by decide +kernel) (by decide +kernel)
set_option maxRecDepth 20000 in
theorem gX8_saysWord_X8_says : GoodIn wsX8_saysWord (wsV RX8 364 RX8 yX8_says wsX8_says) := goodIn_app (goodIn_of _ (by decide +kernel)) ggX8_saysWord_X8_says
theorem dX8_saysWord_0 : decode cX8_saysWord 0 = .ok (.iconst 0, 1) := by decide +kernel
theorem dX8_saysWord_1 : decode cX8_saysWord 1 = .ok (.istore_n 3, 1) := by decide +kernel
theorem dX8_saysWord_2 : decode cX8_saysWord 2 = .ok (.lload_n 1, 1) := by decide +kernel
theorem dX8_saysWord_3 : decode cX8_saysWord 3 = .ok (.iload_n 3, 1) := by decide +kernel
theorem dX8_saysWord_4 : decode cX8_saysWord 4 = .ok (.iconst 5, 1) := by decide +kernel
theorem dX8_saysWord_5 : decode cX8_saysWord 5 = .ok (.iadd, 1) := by decide +kernel
theorem dX8_saysWord_6 : decode cX8_saysWord 6 = .ok (.lshr, 1) := by decide +kernel
theorem dX8_saysWord_7 : decode cX8_saysWord 7 = .ok (.lconst 0, 1) := by decide +kernel
theorem dX8_saysWord_8 : decode cX8_saysWord 8 = .ok (.lcmp, 1) := by decide +kernel
theorem dX8_saysWord_9 : decode cX8_saysWord 9 = .ok (.ifCond .le 9, 3) := by decide +kernel
theorem dX8_saysWord_12 : decode cX8_saysWord 12 = .ok (.iinc 3 5, 3) := by decide +kernel
theorem dX8_saysWord_15 : decode cX8_saysWord 15 = .ok (.goto (-13), 3) := by decide +kernel
theorem dX8_saysWord_18 : decode cX8_saysWord 18 = .ok (.iload_n 3, 1) := by decide +kernel
theorem dX8_saysWord_19 : decode cX8_saysWord 19 = .ok (.ifCond .lt 24, 3) := by decide +kernel
theorem dX8_saysWord_22 : decode cX8_saysWord 22 = .ok (.aload_n 0, 1) := by decide +kernel
theorem dX8_saysWord_23 : decode cX8_saysWord 23 = .ok (.bipush 96, 2) := by decide +kernel
theorem dX8_saysWord_25 : decode cX8_saysWord 25 = .ok (.lload_n 1, 1) := by decide +kernel
theorem dX8_saysWord_26 : decode cX8_saysWord 26 = .ok (.iload_n 3, 1) := by decide +kernel
theorem dX8_saysWord_27 : decode cX8_saysWord 27 = .ok (.lshr, 1) := by decide +kernel
theorem dX8_saysWord_28 : decode cX8_saysWord 28 = .ok (.ldc2_w 362, 3) := by decide +kernel
theorem dX8_saysWord_31 : decode cX8_saysWord 31 = .ok (.land, 1) := by decide +kernel
theorem dX8_saysWord_32 : decode cX8_saysWord 32 = .ok (.l2i, 1) := by decide +kernel
theorem dX8_saysWord_33 : decode cX8_saysWord 33 = .ok (.iadd, 1) := by decide +kernel
theorem dX8_saysWord_34 : decode cX8_saysWord 34 = .ok (.invokevirtual 364, 3) := by decide +kernel
theorem dX8_saysWord_37 : decode cX8_saysWord 37 = .ok (.iinc 3 (-5), 3) := by decide +kernel
theorem dX8_saysWord_40 : decode cX8_saysWord 40 = .ok (.goto (-22), 3) := by decide +kernel
theorem dX8_saysWord_43 : decode cX8_saysWord 43 = .ok (.return_, 1) := by decide +kernel
set_option maxRecDepth 20000 in
theorem ggX8_saysPart_X8_says : GoodIn wsX8_saysPart wsX8_says := goodIn_r _ [5, 6, 7, 8, 9, 10, 11, 12, 13, 14, 15, 16, 17, 18, 19, 20, 21, 22, 23, 24, 25, 26, 27, 28, 29, 30, 31, 32, 33, 34] (by decide +kernel) (by decide +kernel)
set_option maxRecDepth 20000 in
theorem gX8_saysPart_X8_says : GoodIn wsX8_saysPart (wsV RX8 364 RX8 yX8_says wsX8_says) := goodIn_app (goodIn_of _ (by decide +kernel)) ggX8_saysPart_X8_says
theorem dX8_saysPart_0 : decode cX8_saysPart 0 = .ok (.iconst 1, 1) := by decide +kernel
theorem dX8_saysPart_1 : decode cX8_saysPart 1 = .ok (.istore_n 2, 1) := by decide +kernel
theorem dX8_saysPart_2 : decode cX8_saysPart 2 = .ok (.iload_n 1, 1) := by decide +kernel
theorem dX8_saysPart_3 : decode cX8_saysPart 3 = .ok (.iload_n 2, 1) := by decide +kernel
theorem dX8_saysPart_4 : decode cX8_saysPart 4 = .ok (.idiv, 1) := by decide +kernel
theorem dX8_saysPart_5 : decode cX8_saysPart 5 = .ok (.bipush 9, 2) := by decide +kernel
theorem dX8_saysPart_7 : decode cX8_saysPart 7 = .ok (.if_icmp .le 11, 3) := by decide +kernel
theorem dX8_saysPart_10 : decode cX8_saysPart 10 = .ok (.iload_n 2, 1) := by decide +kernel
theorem dX8_saysPart_11 : decode cX8_saysPart 11 = .ok (.bipush 10, 2) := by decide +kernel
theorem dX8_saysPart_13 : decode cX8_saysPart 13 = .ok (.imul, 1) := by decide +kernel
theorem dX8_saysPart_14 : decode cX8_saysPart 14 = .ok (.istore_n 2, 1) := by decide +kernel
theorem dX8_saysPart_15 : decode cX8_saysPart 15 = .ok (.goto (-13), 3) := by decide +kernel
theorem dX8_saysPart_18 : decode cX8_saysPart 18 = .ok (.aload_n 0, 1) := by decide +kernel
theorem dX8_saysPart_19 : decode cX8_saysPart 19 = .ok (.bipush 32, 2) := by decide +kernel
theorem dX8_saysPart_21 : decode cX8_saysPart 21 = .ok (.invokevirtual 364, 3) := by decide +kernel
theorem dX8_saysPart_24 : decode cX8_saysPart 24 = .ok (.iload_n 2, 1) := by decide +kernel
theorem dX8_saysPart_25 : decode cX8_saysPart 25 = .ok (.ifCond .le 24, 3) := by decide +kernel
theorem dX8_saysPart_28 : decode cX8_saysPart 28 = .ok (.aload_n 0, 1) := by decide +kernel
theorem dX8_saysPart_29 : decode cX8_saysPart 29 = .ok (.bipush 48, 2) := by decide +kernel
theorem dX8_saysPart_31 : decode cX8_saysPart 31 = .ok (.iload_n 1, 1) := by decide +kernel
theorem dX8_saysPart_32 : decode cX8_saysPart 32 = .ok (.iload_n 2, 1) := by decide +kernel
theorem dX8_saysPart_33 : decode cX8_saysPart 33 = .ok (.idiv, 1) := by decide +kernel
theorem dX8_saysPart_34 : decode cX8_saysPart 34 = .ok (.bipush 10, 2) := by decide +kernel
theorem dX8_saysPart_36 : decode cX8_saysPart 36 = .ok (.irem, 1) := by decide +kernel
theorem dX8_saysPart_37 : decode cX8_saysPart 37 = .ok (.iadd, 1) := by decide +kernel
theorem dX8_saysPart_38 : decode cX8_saysPart 38 = .ok (.invokevirtual 364, 3) := by decide +kernel
theorem dX8_saysPart_41 : decode cX8_saysPart 41 = .ok (.iload_n 2, 1) := by decide +kernel
theorem dX8_saysPart_42 : decode cX8_saysPart 42 = .ok (.bipush 10, 2) := by decide +kernel
theorem dX8_saysPart_44 : decode cX8_saysPart 44 = .ok (.idiv, 1) := by decide +kernel
theorem dX8_saysPart_45 : decode cX8_saysPart 45 = .ok (.istore_n 2, 1) := by decide +kernel
theorem dX8_saysPart_46 : decode cX8_saysPart 46 = .ok (.goto (-22), 3) := by decide +kernel
theorem dX8_saysPart_49 : decode cX8_saysPart 49 = .ok (.return_, 1) := by decide +kernel
theorem dX8_policyKey_0 : decode cX8_policyKey 0 = .ok (.aload_n 0, 1) := by decide +kernel
theorem dX8_policyKey_1 : decode cX8_policyKey 1 = .ok (.getfield 17, 3) := by decide +kernel
theorem dX8_policyKey_4 : decode cX8_policyKey 4 = .ok (.iconst 2, 1) := by decide +kernel
theorem dX8_policyKey_5 : decode cX8_policyKey 5 = .ok (.iaload, 1) := by decide +kernel
theorem dX8_policyKey_6 : decode cX8_policyKey 6 = .ok (.ifCond .ne 7, 3) := by decide +kernel
theorem dX8_policyKey_9 : decode cX8_policyKey 9 = .ok (.ldc2_w 263, 3) := by decide +kernel
theorem dX8_policyKey_12 : decode cX8_policyKey 12 = .ok (.lreturn, 1) := by decide +kernel
theorem dX8_policyKey_13 : decode cX8_policyKey 13 = .ok (.aload_n 0, 1) := by decide +kernel
theorem dX8_policyKey_14 : decode cX8_policyKey 14 = .ok (.getfield 17, 3) := by decide +kernel
theorem dX8_policyKey_17 : decode cX8_policyKey 17 = .ok (.iconst 2, 1) := by decide +kernel
theorem dX8_policyKey_18 : decode cX8_policyKey 18 = .ok (.iaload, 1) := by decide +kernel
theorem dX8_policyKey_19 : decode cX8_policyKey 19 = .ok (.iconst 1, 1) := by decide +kernel
theorem dX8_policyKey_20 : decode cX8_policyKey 20 = .ok (.if_icmp .ne 7, 3) := by decide +kernel
theorem dX8_policyKey_23 : decode cX8_policyKey 23 = .ok (.ldc2_w 269, 3) := by decide +kernel
theorem dX8_policyKey_26 : decode cX8_policyKey 26 = .ok (.lreturn, 1) := by decide +kernel
theorem dX8_policyKey_27 : decode cX8_policyKey 27 = .ok (.ldc2_w 271, 3) := by decide +kernel
theorem dX8_policyKey_30 : decode cX8_policyKey 30 = .ok (.lreturn, 1) := by decide +kernel
set_option maxRecDepth 20000 in
theorem ggX8_writesSettings_X8_saysWord : GoodIn wsX8_writesSettings wsX8_saysWord := goodIn_r _ [7, 8, 9, 10, 11, 6, 12, 13, 14, 26, 27, 28, 29, 30, 31, 32, 33, 34, 35, 36, 37, 38, 39, 40, 41, 42, 43, 44, 45, 46, 47, 48, 49, 50, 51, 52] (by decide +kernel) (by decide +kernel)
set_option maxRecDepth 20000 in
theorem gX8_writesSettings_X8_saysWord : GoodIn wsX8_writesSettings (wsV RX8 367 RX8 yX8_saysWord wsX8_saysWord) := goodIn_app (goodIn_of _ (by decide +kernel)) ggX8_writesSettings_X8_saysWord
set_option maxRecDepth 20000 in
theorem ggX8_writesSettings_X8_saysPart : GoodIn wsX8_writesSettings wsX8_saysPart := goodIn_r _ [18, 9, 10, 11, 6, 12, 13, 14, 26, 27, 28, 29, 30, 31, 32, 33, 34, 35, 36, 37, 38, 39, 40, 41, 42, 43, 44, 45, 46, 47, 48, 49, 50, 51, 52] (by decide +kernel) (by decide +kernel)
set_option maxRecDepth 20000 in
theorem gX8_writesSettings_X8_saysPart : GoodIn wsX8_writesSettings (wsV RX8 371 RX8 yX8_saysPart wsX8_saysPart) := goodIn_app (goodIn_of _ (by decide +kernel)) ggX8_writesSettings_X8_saysPart
set_option maxRecDepth 20000 in
theorem ggX8_writesSettings_X8_says : GoodIn wsX8_writesSettings wsX8_says := goodIn_r _ [12, 13, 14, 26, 27, 28, 29, 30, 31, 32, 33, 34, 35, 36, 37, 38, 39, 40, 41, 42, 43, 44, 45, 46, 47, 48, 49, 50, 51, 52] (by decide +kernel) (by decide +kernel)
set_option maxRecDepth 20000 in
theorem gX8_writesSettings_X8_says : GoodIn wsX8_writesSettings (wsV RX8 364 RX8 yX8_says wsX8_says) := goodIn_app (goodIn_of _ (by decide +kernel)) ggX8_writesSettings_X8_says
set_option maxRecDepth 20000 in
theorem ggX8_writesSettings_X8_policyKey : GoodIn wsX8_writesSettings wsX8_policyKey := goodIn_r _ [22, 2, 23, 24, 25, 26, 27, 28, 29, 30, 31, 32, 33, 34, 35, 36, 37, 38, 39, 40, 41, 42, 43, 44, 45, 46, 47, 48, 49, 50, 51, 52] (by decide +kernel) (by decide +kernel)
set_option maxRecDepth 20000 in
theorem gX8_writesSettings_X8_policyKey : GoodIn wsX8_writesSettings (wsV RX8 374 RX8 yX8_policyKey wsX8_policyKey) := goodIn_app (goodIn_of _ (by decide +kernel)) ggX8_writesSettings_X8_policyKey
theorem dX8_writesSettings_0 : decode cX8_writesSettings 0 = .ok (.aload_n 0, 1) := by decide +kernel
theorem dX8_writesSettings_1 : decode cX8_writesSettings 1 = .ok (.ldc2_w 273, 3) := by decide +kernel
theorem dX8_writesSettings_4 : decode cX8_writesSettings 4 = .ok (.invokevirtual 367, 3) := by decide +kernel
theorem dX8_writesSettings_7 : decode cX8_writesSettings 7 = .ok (.aload_n 0, 1) := by decide +kernel
theorem dX8_writesSettings_8 : decode cX8_writesSettings 8 = .ok (.aload_n 0, 1) := by decide +kernel
theorem dX8_writesSettings_9 : decode cX8_writesSettings 9 = .ok (.getfield 17, 3) := by decide +kernel
theorem dX8_writesSettings_12 : decode cX8_writesSettings 12 = .ok (.iconst 0, 1) := by decide +kernel
theorem dX8_writesSettings_13 : decode cX8_writesSettings 13 = .ok (.iaload, 1) := by decide +kernel
theorem dX8_writesSettings_14 : decode cX8_writesSettings 14 = .ok (.invokevirtual 371, 3) := by decide +kernel
theorem dX8_writesSettings_17 : decode cX8_writesSettings 17 = .ok (.aload_n 0, 1) := by decide +kernel
theorem dX8_writesSettings_18 : decode cX8_writesSettings 18 = .ok (.aload_n 0, 1) := by decide +kernel
theorem dX8_writesSettings_19 : decode cX8_writesSettings 19 = .ok (.getfield 17, 3) := by decide +kernel
theorem dX8_writesSettings_22 : decode cX8_writesSettings 22 = .ok (.iconst 1, 1) := by decide +kernel
theorem dX8_writesSettings_23 : decode cX8_writesSettings 23 = .ok (.iaload, 1) := by decide +kernel
theorem dX8_writesSettings_24 : decode cX8_writesSettings 24 = .ok (.invokevirtual 371, 3) := by decide +kernel
theorem dX8_writesSettings_27 : decode cX8_writesSettings 27 = .ok (.aload_n 0, 1) := by decide +kernel
theorem dX8_writesSettings_28 : decode cX8_writesSettings 28 = .ok (.bipush 32, 2) := by decide +kernel
theorem dX8_writesSettings_30 : decode cX8_writesSettings 30 = .ok (.invokevirtual 364, 3) := by decide +kernel
theorem dX8_writesSettings_33 : decode cX8_writesSettings 33 = .ok (.aload_n 0, 1) := by decide +kernel
theorem dX8_writesSettings_34 : decode cX8_writesSettings 34 = .ok (.aload_n 0, 1) := by decide +kernel
theorem dX8_writesSettings_35 : decode cX8_writesSettings 35 = .ok (.invokevirtual 374, 3) := by decide +kernel
theorem dX8_writesSettings_38 : decode cX8_writesSettings 38 = .ok (.invokevirtual 367, 3) := by decide +kernel
theorem dX8_writesSettings_41 : decode cX8_writesSettings 41 = .ok (.aload_n 0, 1) := by decide +kernel
theorem dX8_writesSettings_42 : decode cX8_writesSettings 42 = .ok (.aload_n 0, 1) := by decide +kernel
theorem dX8_writesSettings_43 : decode cX8_writesSettings 43 = .ok (.getfield 17, 3) := by decide +kernel
theorem dX8_writesSettings_46 : decode cX8_writesSettings 46 = .ok (.iconst 3, 1) := by decide +kernel
theorem dX8_writesSettings_47 : decode cX8_writesSettings 47 = .ok (.iaload, 1) := by decide +kernel
theorem dX8_writesSettings_48 : decode cX8_writesSettings 48 = .ok (.invokevirtual 371, 3) := by decide +kernel
theorem dX8_writesSettings_51 : decode cX8_writesSettings 51 = .ok (.aload_n 0, 1) := by decide +kernel
theorem dX8_writesSettings_52 : decode cX8_writesSettings 52 = .ok (.bipush 59, 2) := by decide +kernel
theorem dX8_writesSettings_54 : decode cX8_writesSettings 54 = .ok (.invokevirtual 364, 3) := by decide +kernel
theorem dX8_writesSettings_57 : decode cX8_writesSettings 57 = .ok (.return_, 1) := by decide +kernel
set_option maxRecDepth 20000 in
theorem ggX8_writesSymbols_X8_saysWord : GoodIn wsX8_writesSymbols wsX8_saysWord := goodIn_r _ [7, 8, 9, 10, 11, 6, 12, 13, 14, 15, 16, 17, 18, 19, 20, 21, 22, 23, 24, 25, 26, 27, 28, 29, 30, 31, 32, 33, 34, 35, 36, 37, 38, 39, 40, 41] (by decide +kernel) (by decide +kernel)
set_option maxRecDepth 20000 in
theorem gX8_writesSymbols_X8_saysWord : GoodIn wsX8_writesSymbols (wsV RX8 367 RX8 yX8_saysWord wsX8_saysWord) := goodIn_app (goodIn_of _ (by decide +kernel)) ggX8_writesSymbols_X8_saysWord
set_option maxRecDepth 20000 in
theorem ggX8_writesSymbols_X8_says : GoodIn wsX8_writesSymbols wsX8_says := goodIn_r _ [12, 13, 14, 15, 16, 17, 18, 19, 20, 21, 22, 23, 24, 25, 26, 27, 28, 29, 30, 31, 32, 33, 34, 35, 36, 37, 38, 39, 40, 41] (by decide +kernel) (by decide +kernel)
set_option maxRecDepth 20000 in
theorem gX8_writesSymbols_X8_says : GoodIn wsX8_writesSymbols (wsV RX8 364 RX8 yX8_says wsX8_says) := goodIn_app (goodIn_of _ (by decide +kernel)) ggX8_writesSymbols_X8_says
theorem dX8_writesSymbols_0 : decode cX8_writesSymbols 0 = .ok (.aload_n 0, 1) := by decide +kernel
theorem dX8_writesSymbols_1 : decode cX8_writesSymbols 1 = .ok (.ldc2_w 290, 3) := by decide +kernel
theorem dX8_writesSymbols_4 : decode cX8_writesSymbols 4 = .ok (.invokevirtual 367, 3) := by decide +kernel
theorem dX8_writesSymbols_7 : decode cX8_writesSymbols 7 = .ok (.aload_n 0, 1) := by decide +kernel
theorem dX8_writesSymbols_8 : decode cX8_writesSymbols 8 = .ok (.bipush 32, 2) := by decide +kernel
theorem dX8_writesSymbols_10 : decode cX8_writesSymbols 10 = .ok (.invokevirtual 364, 3) := by decide +kernel
theorem dX8_writesSymbols_13 : decode cX8_writesSymbols 13 = .ok (.iconst 0, 1) := by decide +kernel
theorem dX8_writesSymbols_14 : decode cX8_writesSymbols 14 = .ok (.istore_n 1, 1) := by decide +kernel
theorem dX8_writesSymbols_15 : decode cX8_writesSymbols 15 = .ok (.iload_n 1, 1) := by decide +kernel
theorem dX8_writesSymbols_16 : decode cX8_writesSymbols 16 = .ok (.aload_n 0, 1) := by decide +kernel
theorem dX8_writesSymbols_17 : decode cX8_writesSymbols 17 = .ok (.getfield 17, 3) := by decide +kernel
theorem dX8_writesSymbols_20 : decode cX8_writesSymbols 20 = .ok (.bipush 6, 2) := by decide +kernel
theorem dX8_writesSymbols_22 : decode cX8_writesSymbols 22 = .ok (.iaload, 1) := by decide +kernel
theorem dX8_writesSymbols_23 : decode cX8_writesSymbols 23 = .ok (.if_icmp .ge 26, 3) := by decide +kernel
theorem dX8_writesSymbols_26 : decode cX8_writesSymbols 26 = .ok (.aload_n 0, 1) := by decide +kernel
theorem dX8_writesSymbols_27 : decode cX8_writesSymbols 27 = .ok (.bipush 97, 2) := by decide +kernel
theorem dX8_writesSymbols_29 : decode cX8_writesSymbols 29 = .ok (.aload_n 0, 1) := by decide +kernel
theorem dX8_writesSymbols_30 : decode cX8_writesSymbols 30 = .ok (.getfield 17, 3) := by decide +kernel
theorem dX8_writesSymbols_33 : decode cX8_writesSymbols 33 = .ok (.sipush 526, 3) := by decide +kernel
theorem dX8_writesSymbols_36 : decode cX8_writesSymbols 36 = .ok (.iload_n 1, 1) := by decide +kernel
theorem dX8_writesSymbols_37 : decode cX8_writesSymbols 37 = .ok (.iadd, 1) := by decide +kernel
theorem dX8_writesSymbols_38 : decode cX8_writesSymbols 38 = .ok (.iaload, 1) := by decide +kernel
theorem dX8_writesSymbols_39 : decode cX8_writesSymbols 39 = .ok (.iadd, 1) := by decide +kernel
theorem dX8_writesSymbols_40 : decode cX8_writesSymbols 40 = .ok (.invokevirtual 364, 3) := by decide +kernel
theorem dX8_writesSymbols_43 : decode cX8_writesSymbols 43 = .ok (.iinc 1 1, 3) := by decide +kernel
theorem dX8_writesSymbols_46 : decode cX8_writesSymbols 46 = .ok (.goto (-31), 3) := by decide +kernel
theorem dX8_writesSymbols_49 : decode cX8_writesSymbols 49 = .ok (.aload_n 0, 1) := by decide +kernel
theorem dX8_writesSymbols_50 : decode cX8_writesSymbols 50 = .ok (.bipush 59, 2) := by decide +kernel
theorem dX8_writesSymbols_52 : decode cX8_writesSymbols 52 = .ok (.invokevirtual 364, 3) := by decide +kernel
theorem dX8_writesSymbols_55 : decode cX8_writesSymbols 55 = .ok (.return_, 1) := by decide +kernel
set_option maxRecDepth 20000 in
theorem ggX8_writesSetup_X8_writesSettings : GoodIn wsX8_writesSetup wsX8_writesSettings := goodIn_r _ [7, 8, 2, 9, 10, 11, 6, 12, 13, 14, 15, 16, 17, 18, 1, 19, 20, 21, 22, 23, 24, 25, 26, 27, 28, 29, 35, 36, 37, 38, 39, 40, 41, 42, 43, 44, 45, 46, 47, 48, 49, 50, 51, 52, 53, 54, 55, 56, 57, 58, 59, 60, 61] (by decide +kernel) (by decide +kernel)
set_option maxRecDepth 20000 in
theorem gX8_writesSetup_X8_writesSettings : GoodIn wsX8_writesSetup (wsV RX8 378 RX8 yX8_writesSettings wsX8_writesSettings) := goodIn_app (goodIn_of _ (by decide +kernel)) ggX8_writesSetup_X8_writesSettings
set_option maxRecDepth 20000 in
theorem ggX8_writesSetup_X8_writesSymbols : GoodIn wsX8_writesSetup wsX8_writesSymbols := goodIn_r _ [33, 34, 2, 9, 10, 11, 6, 12, 13, 14, 15, 16, 17, 18, 1, 35, 36, 37, 38, 39, 40, 41, 42, 43, 44, 45, 46, 47, 48, 49, 50, 51, 52, 53, 54, 55, 56, 57, 58, 59, 60, 61] (by decide +kernel) (by decide +kernel)
set_option maxRecDepth 20000 in
theorem gX8_writesSetup_X8_writesSymbols : GoodIn wsX8_writesSetup (wsV RX8 381 RX8 yX8_writesSymbols wsX8_writesSymbols) := goodIn_app (goodIn_of _ (by decide +kernel)) ggX8_writesSetup_X8_writesSymbols
theorem dX8_writesSetup_0 : decode cX8_writesSetup 0 = .ok (.aload_n 0, 1) := by decide +kernel
theorem dX8_writesSetup_1 : decode cX8_writesSetup 1 = .ok (.iconst 0, 1) := by decide +kernel
theorem dX8_writesSetup_2 : decode cX8_writesSetup 2 = .ok (.putfield 359, 3) := by decide +kernel
theorem dX8_writesSetup_5 : decode cX8_writesSetup 5 = .ok (.aload_n 0, 1) := by decide +kernel
theorem dX8_writesSetup_6 : decode cX8_writesSetup 6 = .ok (.invokevirtual 378, 3) := by decide +kernel
theorem dX8_writesSetup_9 : decode cX8_writesSetup 9 = .ok (.aload_n 0, 1) := by decide +kernel
theorem dX8_writesSetup_10 : decode cX8_writesSetup 10 = .ok (.getfield 17, 3) := by decide +kernel
theorem dX8_writesSetup_13 : decode cX8_writesSetup 13 = .ok (.bipush 6, 2) := by decide +kernel
theorem dX8_writesSetup_15 : decode cX8_writesSetup 15 = .ok (.iaload, 1) := by decide +kernel
theorem dX8_writesSetup_16 : decode cX8_writesSetup 16 = .ok (.ifCond .le 7, 3) := by decide +kernel
theorem dX8_writesSetup_19 : decode cX8_writesSetup 19 = .ok (.aload_n 0, 1) := by decide +kernel
theorem dX8_writesSetup_20 : decode cX8_writesSetup 20 = .ok (.invokevirtual 381, 3) := by decide +kernel
theorem dX8_writesSetup_23 : decode cX8_writesSetup 23 = .ok (.return_, 1) := by decide +kernel
set_option maxRecDepth 20000 in
theorem ggX8_setupLength_X8_writesSetup : GoodIn wsX8_setupLength wsX8_writesSetup := goodIn_r _ [6, 1, 7, 8, 9, 10, 5, 11, 12, 13, 14, 15, 16, 17, 18, 19, 20, 21, 22, 23, 24, 25, 26, 27, 28, 29, 30, 31, 32, 33, 34, 35, 36, 37, 38, 44, 45, 46, 47, 48, 49, 50, 51, 52, 53, 54, 55, 56, 57, 58, 59, 60, 61, 62, 63, 64, 65, 66, 67, 68, 69, 70] (by decide +kernel) (by decide +kernel)
set_option maxRecDepth 20000 in
theorem gX8_setupLength_X8_writesSetup : GoodIn wsX8_setupLength (wsV RX8 384 RX8 yX8_writesSetup wsX8_writesSetup) := goodIn_app (goodIn_of _ (by decide +kernel)) ggX8_setupLength_X8_writesSetup
set_option maxRecDepth 20000 in
theorem ggX8_setupLength_X8_told : GoodIn wsX8_setupLength wsX8_told := goodIn_r _ [42, 43, 44, 45, 46, 47, 48, 49, 50, 51, 52, 53, 54, 55, 56, 57, 58, 59, 60, 61, 62, 63, 64, 65, 66, 67, 68, 69, 70] (by decide +kernel) (by decide +kernel)
set_option maxRecDepth 20000 in
theorem gX8_setupLength_X8_told : GoodIn wsX8_setupLength (wsV RX8 55 RX8 yX8_told wsX8_told) := goodIn_app (goodIn_of _ (by decide +kernel)) ggX8_setupLength_X8_told
theorem dX8_setupLength_0 : decode cX8_setupLength 0 = .ok (.aload_n 0, 1) := by decide +kernel
theorem dX8_setupLength_1 : decode cX8_setupLength 1 = .ok (.invokevirtual 384, 3) := by decide +kernel
theorem dX8_setupLength_4 : decode cX8_setupLength 4 = .ok (.aload_n 0, 1) := by decide +kernel
theorem dX8_setupLength_5 : decode cX8_setupLength 5 = .ok (.aload_n 0, 1) := by decide +kernel
theorem dX8_setupLength_6 : decode cX8_setupLength 6 = .ok (.getfield 359, 3) := by decide +kernel
theorem dX8_setupLength_9 : decode cX8_setupLength 9 = .ok (.invokevirtual 55, 3) := by decide +kernel
theorem dX8_setupLength_12 : decode cX8_setupLength 12 = .ok (.ireturn, 1) := by decide +kernel
set_option maxRecDepth 20000 in
theorem ggX8_setupByte_X8_writesSetup : GoodIn wsX8_setupByte wsX8_writesSetup := goodIn_r _ [7, 1, 8, 9, 10, 11, 6, 12, 13, 14, 15, 16, 17, 18, 19, 20, 21, 22, 2, 23, 24, 25, 26, 27, 28, 29, 30, 31, 32, 33, 34, 35, 36, 37, 38, 51, 52, 53, 54, 55, 56, 57, 58, 59, 60, 61, 62, 63, 64, 65, 66, 67, 68, 69, 70, 71, 72, 73, 74, 75, 76, 77] (by decide +kernel) (by decide +kernel)
set_option maxRecDepth 20000 in
theorem gX8_setupByte_X8_writesSetup : GoodIn wsX8_setupByte (wsV RX8 384 RX8 yX8_writesSetup wsX8_writesSetup) := goodIn_app (goodIn_of _ (by decide +kernel)) ggX8_setupByte_X8_writesSetup
set_option maxRecDepth 20000 in
theorem ggX8_setupByte_X8_in : GoodIn wsX8_setupByte wsX8_in := goodIn_r _ [41] (by decide +kernel) (by decide +kernel)
set_option maxRecDepth 20000 in
theorem gX8_setupByte_X8_in : GoodIn wsX8_setupByte (va_wsS RX8 62 yX8_in wsX8_in) := goodIn_app (goodIn_of _ (by decide +kernel)) ggX8_setupByte_X8_in
set_option maxRecDepth 20000 in
theorem ggX8_setupByte_X8_throwing : GoodIn wsX8_setupByte wsX8_throwing := goodIn_r _ [45, 46, 51, 52, 53, 54, 55, 56, 57, 58, 59, 60, 61, 62, 63, 64, 65, 66, 67, 68, 69, 70, 71, 72, 73, 74, 75, 76, 77] (by decide +kernel) (by decide +kernel)
set_option maxRecDepth 20000 in
theorem gX8_setupByte_X8_throwing : GoodIn wsX8_setupByte (wsV RX8 59 RX8 yX8_throwing wsX8_throwing) := goodIn_app (goodIn_of _ (by decide +kernel)) ggX8_setupByte_X8_throwing
set_option maxRecDepth 20000 in
theorem ggX8_setupByte_X8_told : GoodIn wsX8_setupByte wsX8_told := goodIn_r _ [50, 46, 51, 52, 53, 54, 55, 56, 57, 58, 59, 60, 61, 62, 63, 64, 65, 66, 67, 68, 69, 70, 71, 72, 73, 74, 75, 76, 77] (by decide +kernel) (by decide +kernel)
set_option maxRecDepth 20000 in
theorem gX8_setupByte_X8_told : GoodIn wsX8_setupByte (wsV RX8 55 RX8 yX8_told wsX8_told) := goodIn_app (goodIn_of _ (by decide +kernel)) ggX8_setupByte_X8_told
theorem dX8_setupByte_0 : decode cX8_setupByte 0 = .ok (.aload_n 0, 1) := by decide +kernel
theorem dX8_setupByte_1 : decode cX8_setupByte 1 = .ok (.invokevirtual 384, 3) := by decide +kernel
theorem dX8_setupByte_4 : decode cX8_setupByte 4 = .ok (.iload_n 1, 1) := by decide +kernel
theorem dX8_setupByte_5 : decode cX8_setupByte 5 = .ok (.iconst 0, 1) := by decide +kernel
theorem dX8_setupByte_6 : decode cX8_setupByte 6 = .ok (.aload_n 0, 1) := by decide +kernel
theorem dX8_setupByte_7 : decode cX8_setupByte 7 = .ok (.getfield 359, 3) := by decide +kernel
theorem dX8_setupByte_10 : decode cX8_setupByte 10 = .ok (.iconst 1, 1) := by decide +kernel
theorem dX8_setupByte_11 : decode cX8_setupByte 11 = .ok (.isub, 1) := by decide +kernel
theorem dX8_setupByte_12 : decode cX8_setupByte 12 = .ok (.invokestatic 62, 3) := by decide +kernel
theorem dX8_setupByte_15 : decode cX8_setupByte 15 = .ok (.ifCond .ne 9, 3) := by decide +kernel
theorem dX8_setupByte_18 : decode cX8_setupByte 18 = .ok (.aload_n 0, 1) := by decide +kernel
theorem dX8_setupByte_19 : decode cX8_setupByte 19 = .ok (.iconst 1, 1) := by decide +kernel
theorem dX8_setupByte_20 : decode cX8_setupByte 20 = .ok (.invokevirtual 59, 3) := by decide +kernel
theorem dX8_setupByte_23 : decode cX8_setupByte 23 = .ok (.ireturn, 1) := by decide +kernel
theorem dX8_setupByte_24 : decode cX8_setupByte 24 = .ok (.aload_n 0, 1) := by decide +kernel
theorem dX8_setupByte_25 : decode cX8_setupByte 25 = .ok (.aload_n 0, 1) := by decide +kernel
theorem dX8_setupByte_26 : decode cX8_setupByte 26 = .ok (.getfield 46, 3) := by decide +kernel
theorem dX8_setupByte_29 : decode cX8_setupByte 29 = .ok (.iload_n 1, 1) := by decide +kernel
theorem dX8_setupByte_30 : decode cX8_setupByte 30 = .ok (.baload, 1) := by decide +kernel
theorem dX8_setupByte_31 : decode cX8_setupByte 31 = .ok (.invokevirtual 55, 3) := by decide +kernel
theorem dX8_setupByte_34 : decode cX8_setupByte 34 = .ok (.ireturn, 1) := by decide +kernel
theorem dJ9_max_7cf53_0 : decode cJ9_max_7cf53 0 = .ok (.iload_n 0, 1) := by decide +kernel
theorem dJ9_max_7cf53_1 : decode cJ9_max_7cf53 1 = .ok (.iload_n 1, 1) := by decide +kernel
theorem dJ9_max_7cf53_2 : decode cJ9_max_7cf53 2 = .ok (.if_icmp .lt 7, 3) := by decide +kernel
theorem dJ9_max_7cf53_5 : decode cJ9_max_7cf53 5 = .ok (.iload_n 0, 1) := by decide +kernel
theorem dJ9_max_7cf53_6 : decode cJ9_max_7cf53 6 = .ok (.goto 4, 3) := by decide +kernel
theorem dJ9_max_7cf53_9 : decode cJ9_max_7cf53 9 = .ok (.iload_n 1, 1) := by decide +kernel
theorem dJ9_max_7cf53_10 : decode cJ9_max_7cf53 10 = .ok (.ireturn, 1) := by decide +kernel
theorem dJ9_min_7cf53_0 : decode cJ9_min_7cf53 0 = .ok (.iload_n 0, 1) := by decide +kernel
theorem dJ9_min_7cf53_1 : decode cJ9_min_7cf53 1 = .ok (.iload_n 1, 1) := by decide +kernel
theorem dJ9_min_7cf53_2 : decode cJ9_min_7cf53 2 = .ok (.if_icmp .gt 7, 3) := by decide +kernel
theorem dJ9_min_7cf53_5 : decode cJ9_min_7cf53 5 = .ok (.iload_n 0, 1) := by decide +kernel
theorem dJ9_min_7cf53_6 : decode cJ9_min_7cf53 6 = .ok (.goto 4, 3) := by decide +kernel
theorem dJ9_min_7cf53_9 : decode cJ9_min_7cf53 9 = .ok (.iload_n 1, 1) := by decide +kernel
theorem dJ9_min_7cf53_10 : decode cJ9_min_7cf53 10 = .ok (.ireturn, 1) := by decide +kernel
set_option maxRecDepth 20000 in
theorem ggJ0_length_8abf5_J0_coder_7d493 : GoodIn wsJ0_length_8abf5 wsJ0_coder_7d493 := goodIn_r _ [6, 7, 8] (by decide +kernel) (by decide +kernel)
set_option maxRecDepth 20000 in
theorem gJ0_length_8abf5_J0_coder_7d493 : GoodIn wsJ0_length_8abf5 (wsV RJ0 335 RJ0 yJ0_coder_7d493 wsJ0_coder_7d493) := goodIn_app (goodIn_of _ (by decide +kernel)) ggJ0_length_8abf5_J0_coder_7d493
theorem dJ0_length_8abf5_0 : decode cJ0_length_8abf5 0 = .ok (.aload_n 0, 1) := by decide +kernel
theorem dJ0_length_8abf5_1 : decode cJ0_length_8abf5 1 = .ok (.getfield 9, 3) := by decide +kernel
theorem dJ0_length_8abf5_4 : decode cJ0_length_8abf5 4 = .ok (.arraylength, 1) := by decide +kernel
theorem dJ0_length_8abf5_5 : decode cJ0_length_8abf5 5 = .ok (.aload_n 0, 1) := by decide +kernel
theorem dJ0_length_8abf5_6 : decode cJ0_length_8abf5 6 = .ok (.invokevirtual 335, 3) := by decide +kernel
theorem dJ0_length_8abf5_9 : decode cJ0_length_8abf5 9 = .ok (.ishr, 1) := by decide +kernel
theorem dJ0_length_8abf5_10 : decode cJ0_length_8abf5 10 = .ok (.ireturn, 1) := by decide +kernel
set_option maxRecDepth 20000 in
theorem ggJ0_charAt_5068e_J0_isLatin1_aae02 : GoodIn wsJ0_charAt_5068e wsJ0_isLatin1_aae02 := goodIn_r _ [6, 7, 8] (by decide +kernel) (by decide +kernel)
set_option maxRecDepth 20000 in
theorem gJ0_charAt_5068e_J0_isLatin1_aae02 : GoodIn wsJ0_charAt_5068e (wsV RJ0 492 RJ0 yJ0_isLatin1_aae02 wsJ0_isLatin1_aae02) := goodIn_app (goodIn_of _ (by decide +kernel)) ggJ0_charAt_5068e_J0_isLatin1_aae02
set_option maxRecDepth 20000 in
theorem ggJ0_charAt_5068e_J1_charAt_3b067 : GoodIn wsJ0_charAt_5068e wsJ1_charAt_3b067 := goodIn_r _ [12, 13, 14, 5, 15, 16, 17, 18, 19, 20] (by decide +kernel) (by decide +kernel)
set_option maxRecDepth 20000 in
theorem gJ0_charAt_5068e_J1_charAt_3b067 : GoodIn wsJ0_charAt_5068e (va_wsS RJ0 495 yJ1_charAt_3b067 wsJ1_charAt_3b067) := goodIn_app (goodIn_of _ (by decide +kernel)) ggJ0_charAt_5068e_J1_charAt_3b067
set_option maxRecDepth 20000 in
theorem ggJ0_charAt_5068e_J2_charAt_3b067 : GoodIn wsJ0_charAt_5068e wsJ2_charAt_3b067 := goodIn_r _ [24, 25, 26, 23, 27, 28, 29, 30, 31, 14, 5, 15, 16, 17, 18, 19, 20, 32, 33, 34, 35, 36, 37] (by decide +kernel) (by decide +kernel)
set_option maxRecDepth 20000 in
theorem gJ0_charAt_5068e_J2_charAt_3b067 : GoodIn wsJ0_charAt_5068e (va_wsS RJ0 498 yJ2_charAt_3b067 wsJ2_charAt_3b067) := goodIn_app (goodIn_of _ (by decide +kernel)) ggJ0_charAt_5068e_J2_charAt_3b067
theorem dJ0_charAt_5068e_0 : decode cJ0_charAt_5068e 0 = .ok (.aload_n 0, 1) := by decide +kernel
theorem dJ0_charAt_5068e_1 : decode cJ0_charAt_5068e 1 = .ok (.invokevirtual 492, 3) := by decide +kernel
theorem dJ0_charAt_5068e_4 : decode cJ0_charAt_5068e 4 = .ok (.ifCond .eq 12, 3) := by decide +kernel
theorem dJ0_charAt_5068e_7 : decode cJ0_charAt_5068e 7 = .ok (.aload_n 0, 1) := by decide +kernel
theorem dJ0_charAt_5068e_8 : decode cJ0_charAt_5068e 8 = .ok (.getfield 9, 3) := by decide +kernel
theorem dJ0_charAt_5068e_11 : decode cJ0_charAt_5068e 11 = .ok (.iload_n 1, 1) := by decide +kernel
theorem dJ0_charAt_5068e_12 : decode cJ0_charAt_5068e 12 = .ok (.invokestatic 495, 3) := by decide +kernel
theorem dJ0_charAt_5068e_15 : decode cJ0_charAt_5068e 15 = .ok (.ireturn, 1) := by decide +kernel
theorem dJ0_charAt_5068e_16 : decode cJ0_charAt_5068e 16 = .ok (.aload_n 0, 1) := by decide +kernel
theorem dJ0_charAt_5068e_17 : decode cJ0_charAt_5068e 17 = .ok (.getfield 9, 3) := by decide +kernel
theorem dJ0_charAt_5068e_20 : decode cJ0_charAt_5068e 20 = .ok (.iload_n 1, 1) := by decide +kernel
theorem dJ0_charAt_5068e_21 : decode cJ0_charAt_5068e 21 = .ok (.invokestatic 498, 3) := by decide +kernel
theorem dJ0_charAt_5068e_24 : decode cJ0_charAt_5068e 24 = .ok (.ireturn, 1) := by decide +kernel
theorem dJ0_coder_7d493_0 : decode cJ0_coder_7d493 0 = .ok (.getstatic 38, 3) := by decide +kernel
theorem dJ0_coder_7d493_3 : decode cJ0_coder_7d493 3 = .ok (.ifCond .eq 10, 3) := by decide +kernel
theorem dJ0_coder_7d493_6 : decode cJ0_coder_7d493 6 = .ok (.aload_n 0, 1) := by decide +kernel
theorem dJ0_coder_7d493_7 : decode cJ0_coder_7d493 7 = .ok (.getfield 15, 3) := by decide +kernel
theorem dJ0_coder_7d493_10 : decode cJ0_coder_7d493 10 = .ok (.goto 4, 3) := by decide +kernel
theorem dJ0_coder_7d493_13 : decode cJ0_coder_7d493 13 = .ok (.iconst 1, 1) := by decide +kernel
theorem dJ0_coder_7d493_14 : decode cJ0_coder_7d493 14 = .ok (.ireturn, 1) := by decide +kernel
theorem dJ0_isLatin1_aae02_0 : decode cJ0_isLatin1_aae02 0 = .ok (.getstatic 38, 3) := by decide +kernel
theorem dJ0_isLatin1_aae02_3 : decode cJ0_isLatin1_aae02 3 = .ok (.ifCond .eq 14, 3) := by decide +kernel
theorem dJ0_isLatin1_aae02_6 : decode cJ0_isLatin1_aae02 6 = .ok (.aload_n 0, 1) := by decide +kernel
theorem dJ0_isLatin1_aae02_7 : decode cJ0_isLatin1_aae02 7 = .ok (.getfield 15, 3) := by decide +kernel
theorem dJ0_isLatin1_aae02_10 : decode cJ0_isLatin1_aae02 10 = .ok (.ifCond .ne 7, 3) := by decide +kernel
theorem dJ0_isLatin1_aae02_13 : decode cJ0_isLatin1_aae02 13 = .ok (.iconst 1, 1) := by decide +kernel
theorem dJ0_isLatin1_aae02_14 : decode cJ0_isLatin1_aae02 14 = .ok (.goto 4, 3) := by decide +kernel
theorem dJ0_isLatin1_aae02_17 : decode cJ0_isLatin1_aae02 17 = .ok (.iconst 0, 1) := by decide +kernel
theorem dJ0_isLatin1_aae02_18 : decode cJ0_isLatin1_aae02 18 = .ok (.ireturn, 1) := by decide +kernel
set_option maxRecDepth 20000 in
theorem ggJ0_checkIndex_df160_J3_checkIndex_8e157 : GoodIn wsJ0_checkIndex_df160 wsJ3_checkIndex_8e157 := goodIn_r _ [5] (by decide +kernel) (by decide +kernel)
set_option maxRecDepth 20000 in
theorem gJ0_checkIndex_df160_J3_checkIndex_8e157 : GoodIn wsJ0_checkIndex_df160 (va_wsS RJ0 1059 yJ3_checkIndex_8e157 wsJ3_checkIndex_8e157) := goodIn_app (goodIn_of _ (by decide +kernel)) ggJ0_checkIndex_df160_J3_checkIndex_8e157
theorem dJ0_checkIndex_df160_0 : decode cJ0_checkIndex_df160 0 = .ok (.iload_n 0, 1) := by decide +kernel
theorem dJ0_checkIndex_df160_1 : decode cJ0_checkIndex_df160 1 = .ok (.iload_n 1, 1) := by decide +kernel
theorem dJ0_checkIndex_df160_2 : decode cJ0_checkIndex_df160 2 = .ok (.getstatic 1053, 3) := by decide +kernel
theorem dJ0_checkIndex_df160_5 : decode cJ0_checkIndex_df160 5 = .ok (.invokestatic 1059, 3) := by decide +kernel
theorem dJ0_checkIndex_df160_8 : decode cJ0_checkIndex_df160 8 = .ok (.pop, 1) := by decide +kernel
theorem dJ0_checkIndex_df160_9 : decode cJ0_checkIndex_df160 9 = .ok (.return_, 1) := by decide +kernel
set_option maxRecDepth 20000 in
theorem ggJ1_charAt_3b067_J0_checkIndex_df160 : GoodIn wsJ1_charAt_3b067 wsJ0_checkIndex_df160 := goodIn_r _ [4, 5, 6, 7, 8, 9] (by decide +kernel) (by decide +kernel)
set_option maxRecDepth 20000 in
theorem gJ1_charAt_3b067_J0_checkIndex_df160 : GoodIn wsJ1_charAt_3b067 (va_wsS RJ1 9 yJ0_checkIndex_df160 wsJ0_checkIndex_df160) := goodIn_app (goodIn_of _ (by decide +kernel)) ggJ1_charAt_3b067_J0_checkIndex_df160
theorem dJ1_charAt_3b067_0 : decode cJ1_charAt_3b067 0 = .ok (.iload_n 1, 1) := by decide +kernel
theorem dJ1_charAt_3b067_1 : decode cJ1_charAt_3b067 1 = .ok (.aload_n 0, 1) := by decide +kernel
theorem dJ1_charAt_3b067_2 : decode cJ1_charAt_3b067 2 = .ok (.arraylength, 1) := by decide +kernel
theorem dJ1_charAt_3b067_3 : decode cJ1_charAt_3b067 3 = .ok (.invokestatic 9, 3) := by decide +kernel
theorem dJ1_charAt_3b067_6 : decode cJ1_charAt_3b067 6 = .ok (.aload_n 0, 1) := by decide +kernel
theorem dJ1_charAt_3b067_7 : decode cJ1_charAt_3b067 7 = .ok (.iload_n 1, 1) := by decide +kernel
theorem dJ1_charAt_3b067_8 : decode cJ1_charAt_3b067 8 = .ok (.baload, 1) := by decide +kernel
theorem dJ1_charAt_3b067_9 : decode cJ1_charAt_3b067 9 = .ok (.sipush 255, 3) := by decide +kernel
theorem dJ1_charAt_3b067_12 : decode cJ1_charAt_3b067 12 = .ok (.iand, 1) := by decide +kernel
theorem dJ1_charAt_3b067_13 : decode cJ1_charAt_3b067 13 = .ok (.i2c, 1) := by decide +kernel
theorem dJ1_charAt_3b067_14 : decode cJ1_charAt_3b067 14 = .ok (.ireturn, 1) := by decide +kernel
set_option maxRecDepth 20000 in
theorem ggJ2_getChar_3b067_J2_length_9d52b : GoodIn wsJ2_getChar_3b067 wsJ2_length_9d52b := goodIn_r _ [7] (by decide +kernel) (by decide +kernel)
set_option maxRecDepth 20000 in
theorem gJ2_getChar_3b067_J2_length_9d52b : GoodIn wsJ2_getChar_3b067 (va_wsS RJ2 48 yJ2_length_9d52b wsJ2_length_9d52b) := goodIn_app (goodIn_of _ (by decide +kernel)) ggJ2_getChar_3b067_J2_length_9d52b
theorem dJ2_getChar_3b067_0 : decode cJ2_getChar_3b067 0 = .ok (.getstatic 44, 3) := by decide +kernel
theorem dJ2_getChar_3b067_3 : decode cJ2_getChar_3b067 3 = .ok (.ifCond .ne 25, 3) := by decide +kernel
theorem dJ2_getChar_3b067_6 : decode cJ2_getChar_3b067 6 = .ok (.iload_n 1, 1) := by decide +kernel
theorem dJ2_getChar_3b067_7 : decode cJ2_getChar_3b067 7 = .ok (.ifCond .lt 11, 3) := by decide +kernel
theorem dJ2_getChar_3b067_10 : decode cJ2_getChar_3b067 10 = .ok (.iload_n 1, 1) := by decide +kernel
theorem dJ2_getChar_3b067_11 : decode cJ2_getChar_3b067 11 = .ok (.aload_n 0, 1) := by decide +kernel
theorem dJ2_getChar_3b067_12 : decode cJ2_getChar_3b067 12 = .ok (.invokestatic 48, 3) := by decide +kernel
theorem dJ2_getChar_3b067_15 : decode cJ2_getChar_3b067 15 = .ok (.if_icmp .lt 13, 3) := by decide +kernel
theorem dJ2_getChar_3b067_18 : decode cJ2_getChar_3b067 18 = .ok (.new 52, 3) := by decide +kernel
theorem dJ2_getChar_3b067_21 : decode cJ2_getChar_3b067 21 = .ok (.dup, 1) := by decide +kernel
theorem dJ2_getChar_3b067_22 : decode cJ2_getChar_3b067 22 = .ok (.ldc 54, 2) := by decide +kernel
theorem dJ2_getChar_3b067_24 : decode cJ2_getChar_3b067 24 = .ok (.invokespecial 56, 3) := by decide +kernel
theorem dJ2_getChar_3b067_27 : decode cJ2_getChar_3b067 27 = .ok (.athrow, 1) := by decide +kernel
theorem dJ2_getChar_3b067_28 : decode cJ2_getChar_3b067 28 = .ok (.iload_n 1, 1) := by decide +kernel
theorem dJ2_getChar_3b067_29 : decode cJ2_getChar_3b067 29 = .ok (.iconst 1, 1) := by decide +kernel
theorem dJ2_getChar_3b067_30 : decode cJ2_getChar_3b067 30 = .ok (.ishl, 1) := by decide +kernel
theorem dJ2_getChar_3b067_31 : decode cJ2_getChar_3b067 31 = .ok (.istore_n 1, 1) := by decide +kernel
theorem dJ2_getChar_3b067_32 : decode cJ2_getChar_3b067 32 = .ok (.aload_n 0, 1) := by decide +kernel
theorem dJ2_getChar_3b067_33 : decode cJ2_getChar_3b067 33 = .ok (.iload_n 1, 1) := by decide +kernel
theorem dJ2_getChar_3b067_34 : decode cJ2_getChar_3b067 34 = .ok (.iinc 1 1, 3) := by decide +kernel
theorem dJ2_getChar_3b067_37 : decode cJ2_getChar_3b067 37 = .ok (.baload, 1) := by decide +kernel
theorem dJ2_getChar_3b067_38 : decode cJ2_getChar_3b067 38 = .ok (.sipush 255, 3) := by decide +kernel
theorem dJ2_getChar_3b067_41 : decode cJ2_getChar_3b067 41 = .ok (.iand, 1) := by decide +kernel
theorem dJ2_getChar_3b067_42 : decode cJ2_getChar_3b067 42 = .ok (.getstatic 59, 3) := by decide +kernel
theorem dJ2_getChar_3b067_45 : decode cJ2_getChar_3b067 45 = .ok (.ishl, 1) := by decide +kernel
theorem dJ2_getChar_3b067_46 : decode cJ2_getChar_3b067 46 = .ok (.aload_n 0, 1) := by decide +kernel
theorem dJ2_getChar_3b067_47 : decode cJ2_getChar_3b067 47 = .ok (.iload_n 1, 1) := by decide +kernel
theorem dJ2_getChar_3b067_48 : decode cJ2_getChar_3b067 48 = .ok (.baload, 1) := by decide +kernel
theorem dJ2_getChar_3b067_49 : decode cJ2_getChar_3b067 49 = .ok (.sipush 255, 3) := by decide +kernel
theorem dJ2_getChar_3b067_52 : decode cJ2_getChar_3b067 52 = .ok (.iand, 1) := by decide +kernel
theorem dJ2_getChar_3b067_53 : decode cJ2_getChar_3b067 53 = .ok (.getstatic 63, 3) := by decide +kernel
theorem dJ2_getChar_3b067_56 : decode cJ2_getChar_3b067 56 = .ok (.ishl, 1) := by decide +kernel
theorem dJ2_getChar_3b067_57 : decode cJ2_getChar_3b067 57 = .ok (.ior, 1) := by decide +kernel
theorem dJ2_getChar_3b067_58 : decode cJ2_getChar_3b067 58 = .ok (.i2c, 1) := by decide +kernel
theorem dJ2_getChar_3b067_59 : decode cJ2_getChar_3b067 59 = .ok (.ireturn, 1) := by decide +kernel
theorem dJ2_length_9d52b_0 : decode cJ2_length_9d52b 0 = .ok (.aload_n 0, 1) := by decide +kernel
theorem dJ2_length_9d52b_1 : decode cJ2_length_9d52b 1 = .ok (.arraylength, 1) := by decide +kernel
theorem dJ2_length_9d52b_2 : decode cJ2_length_9d52b 2 = .ok (.iconst 1, 1) := by decide +kernel
theorem dJ2_length_9d52b_3 : decode cJ2_length_9d52b 3 = .ok (.ishr, 1) := by decide +kernel
theorem dJ2_length_9d52b_4 : decode cJ2_length_9d52b 4 = .ok (.ireturn, 1) := by decide +kernel
set_option maxRecDepth 20000 in
theorem ggJ2_charAt_3b067_J2_checkIndex_2214a : GoodIn wsJ2_charAt_3b067 wsJ2_checkIndex_2214a := goodIn_r _ [4, 5, 6, 3, 7, 8, 9, 10, 11, 12, 13, 14, 15, 16] (by decide +kernel) (by decide +kernel)
set_option maxRecDepth 20000 in
theorem gJ2_charAt_3b067_J2_checkIndex_2214a : GoodIn wsJ2_charAt_3b067 (va_wsS RJ2 67 yJ2_checkIndex_2214a wsJ2_checkIndex_2214a) := goodIn_app (goodIn_of _ (by decide +kernel)) ggJ2_charAt_3b067_J2_checkIndex_2214a
set_option maxRecDepth 20000 in
theorem ggJ2_charAt_3b067_J2_getChar_3b067 : GoodIn wsJ2_charAt_3b067 wsJ2_getChar_3b067 := goodIn_r _ [19, 20, 21, 22, 5, 6, 3, 7] (by decide +kernel) (by decide +kernel)
set_option maxRecDepth 20000 in
theorem gJ2_charAt_3b067_J2_getChar_3b067 : GoodIn wsJ2_charAt_3b067 (va_wsS RJ2 71 yJ2_getChar_3b067 wsJ2_getChar_3b067) := goodIn_app (goodIn_of _ (by decide +kernel)) ggJ2_charAt_3b067_J2_getChar_3b067
theorem dJ2_charAt_3b067_0 : decode cJ2_charAt_3b067 0 = .ok (.iload_n 1, 1) := by decide +kernel
theorem dJ2_charAt_3b067_1 : decode cJ2_charAt_3b067 1 = .ok (.aload_n 0, 1) := by decide +kernel
theorem dJ2_charAt_3b067_2 : decode cJ2_charAt_3b067 2 = .ok (.invokestatic 67, 3) := by decide +kernel
theorem dJ2_charAt_3b067_5 : decode cJ2_charAt_3b067 5 = .ok (.aload_n 0, 1) := by decide +kernel
theorem dJ2_charAt_3b067_6 : decode cJ2_charAt_3b067 6 = .ok (.iload_n 1, 1) := by decide +kernel
theorem dJ2_charAt_3b067_7 : decode cJ2_charAt_3b067 7 = .ok (.invokestatic 71, 3) := by decide +kernel
theorem dJ2_charAt_3b067_10 : decode cJ2_charAt_3b067 10 = .ok (.ireturn, 1) := by decide +kernel
set_option maxRecDepth 20000 in
theorem ggJ2_checkIndex_2214a_J2_length_9d52b : GoodIn wsJ2_checkIndex_2214a wsJ2_length_9d52b := goodIn_r _ [4] (by decide +kernel) (by decide +kernel)
set_option maxRecDepth 20000 in
theorem gJ2_checkIndex_2214a_J2_length_9d52b : GoodIn wsJ2_checkIndex_2214a (va_wsS RJ2 48 yJ2_length_9d52b wsJ2_length_9d52b) := goodIn_app (goodIn_of _ (by decide +kernel)) ggJ2_checkIndex_2214a_J2_length_9d52b
set_option maxRecDepth 20000 in
theorem ggJ2_checkIndex_2214a_J0_checkIndex_df160 : GoodIn wsJ2_checkIndex_2214a wsJ0_checkIndex_df160 := goodIn_r _ [8, 9, 10, 11, 12, 13] (by decide +kernel) (by decide +kernel)
set_option maxRecDepth 20000 in
theorem gJ2_checkIndex_2214a_J0_checkIndex_df160 : GoodIn wsJ2_checkIndex_2214a (va_wsS RJ2 414 yJ0_checkIndex_df160 wsJ0_checkIndex_df160) := goodIn_app (goodIn_of _ (by decide +kernel)) ggJ2_checkIndex_2214a_J0_checkIndex_df160
theorem dJ2_checkIndex_2214a_0 : decode cJ2_checkIndex_2214a 0 = .ok (.iload_n 0, 1) := by decide +kernel
theorem dJ2_checkIndex_2214a_1 : decode cJ2_checkIndex_2214a 1 = .ok (.aload_n 1, 1) := by decide +kernel
theorem dJ2_checkIndex_2214a_2 : decode cJ2_checkIndex_2214a 2 = .ok (.invokestatic 48, 3) := by decide +kernel
theorem dJ2_checkIndex_2214a_5 : decode cJ2_checkIndex_2214a 5 = .ok (.invokestatic 414, 3) := by decide +kernel
theorem dJ2_checkIndex_2214a_8 : decode cJ2_checkIndex_2214a 8 = .ok (.return_, 1) := by decide +kernel
theorem dJ3_checkIndex_8e157_0 : decode cJ3_checkIndex_8e157 0 = .ok (.iload_n 0, 1) := by decide +kernel
theorem dJ3_checkIndex_8e157_1 : decode cJ3_checkIndex_8e157 1 = .ok (.ifCond .lt 8, 3) := by decide +kernel
theorem dJ3_checkIndex_8e157_4 : decode cJ3_checkIndex_8e157 4 = .ok (.iload_n 0, 1) := by decide +kernel
theorem dJ3_checkIndex_8e157_5 : decode cJ3_checkIndex_8e157 5 = .ok (.iload_n 1, 1) := by decide +kernel
theorem dJ3_checkIndex_8e157_6 : decode cJ3_checkIndex_8e157 6 = .ok (.if_icmp .lt 10, 3) := by decide +kernel
theorem dJ3_checkIndex_8e157_9 : decode cJ3_checkIndex_8e157 9 = .ok (.aload_n 2, 1) := by decide +kernel
theorem dJ3_checkIndex_8e157_10 : decode cJ3_checkIndex_8e157 10 = .ok (.iload_n 0, 1) := by decide +kernel
theorem dJ3_checkIndex_8e157_11 : decode cJ3_checkIndex_8e157 11 = .ok (.iload_n 1, 1) := by decide +kernel
theorem dJ3_checkIndex_8e157_12 : decode cJ3_checkIndex_8e157 12 = .ok (.invokestatic 95, 3) := by decide +kernel
theorem dJ3_checkIndex_8e157_15 : decode cJ3_checkIndex_8e157 15 = .ok (.athrow, 1) := by decide +kernel
theorem dJ3_checkIndex_8e157_16 : decode cJ3_checkIndex_8e157 16 = .ok (.iload_n 0, 1) := by decide +kernel
theorem dJ3_checkIndex_8e157_17 : decode cJ3_checkIndex_8e157 17 = .ok (.ireturn, 1) := by decide +kernel
set_option maxRecDepth 20000 in
theorem ggL_append_X7_append : GoodIn wsL_append wsX7_append := goodIn_ca (goodIn_r _ [6, 7, 8, 9, 10, 11, 12, 5, 13, 14, 15, 16, 17, 18, 19, 20, 21, 22, 23, 24, 25, 26, 27, 28] (by decide +kernel) (by decide +kernel)) (goodIn_sub (fun _ h => List.mem_cons_of_mem _ (List.mem_append_right _ h)) (by decide +kernel))
set_option maxRecDepth 20000 in
theorem gL_append_X7_append : GoodIn wsL_append (wsV RL 7 RX7 yX7_append wsX7_append) := goodIn_app (goodIn_of _ (by decide +kernel)) ggL_append_X7_append
theorem dL_append_0 : decode cL_append 0 = .ok (.aload 6, 2) := by decide +kernel
theorem dL_append_2 : decode cL_append 2 = .ok (.iconst 0, 1) := by decide +kernel
theorem dL_append_3 : decode cL_append 3 = .ok (.aload_n 0, 1) := by decide +kernel
theorem dL_append_4 : decode cL_append 4 = .ok (.iload_n 1, 1) := by decide +kernel
theorem dL_append_5 : decode cL_append 5 = .ok (.iload_n 2, 1) := by decide +kernel
theorem dL_append_6 : decode cL_append 6 = .ok (.iload_n 3, 1) := by decide +kernel
theorem dL_append_7 : decode cL_append 7 = .ok (.iload 4, 2) := by decide +kernel
theorem dL_append_9 : decode cL_append 9 = .ok (.iload 5, 2) := by decide +kernel
theorem dL_append_11 : decode cL_append 11 = .ok (.invokevirtual 7, 3) := by decide +kernel
theorem dL_append_14 : decode cL_append 14 = .ok (.i2l, 1) := by decide +kernel
theorem dL_append_15 : decode cL_append 15 = .ok (.lastore, 1) := by decide +kernel
theorem dL_append_16 : decode cL_append 16 = .ok (.goto 7, 3) := by decide +kernel
theorem dL_append_19 : decode cL_append 19 = .ok (.astore 7, 2) := by decide +kernel
theorem dL_append_21 : decode cL_append 21 = .ok (.iconst 1, 1) := by decide +kernel
theorem dL_append_22 : decode cL_append 22 = .ok (.ireturn, 1) := by decide +kernel
theorem dL_append_23 : decode cL_append 23 = .ok (.iconst 0, 1) := by decide +kernel
theorem dL_append_24 : decode cL_append 24 = .ok (.ireturn, 1) := by decide +kernel
set_option maxRecDepth 20000 in
theorem ggL_truncate_X7_truncate : GoodIn wsL_truncate wsX7_truncate := goodIn_ca (goodIn_r _ [6, 7, 8, 9, 10, 11, 12, 13, 14, 15, 16, 17, 18, 19, 20] (by decide +kernel) (by decide +kernel)) (goodIn_sub (fun _ h => List.mem_cons_of_mem _ (List.mem_append_right _ h)) (by decide +kernel))
set_option maxRecDepth 20000 in
theorem gL_truncate_X7_truncate : GoodIn wsL_truncate (wsV RL 15 RX7 yX7_truncate wsX7_truncate) := goodIn_app (goodIn_of _ (by decide +kernel)) ggL_truncate_X7_truncate
theorem dL_truncate_0 : decode cL_truncate 0 = .ok (.aload_n 2, 1) := by decide +kernel
theorem dL_truncate_1 : decode cL_truncate 1 = .ok (.iconst 0, 1) := by decide +kernel
theorem dL_truncate_2 : decode cL_truncate 2 = .ok (.aload_n 0, 1) := by decide +kernel
theorem dL_truncate_3 : decode cL_truncate 3 = .ok (.iload_n 1, 1) := by decide +kernel
theorem dL_truncate_4 : decode cL_truncate 4 = .ok (.invokevirtual 15, 3) := by decide +kernel
theorem dL_truncate_7 : decode cL_truncate 7 = .ok (.i2l, 1) := by decide +kernel
theorem dL_truncate_8 : decode cL_truncate 8 = .ok (.lastore, 1) := by decide +kernel
theorem dL_truncate_9 : decode cL_truncate 9 = .ok (.goto 6, 3) := by decide +kernel
theorem dL_truncate_12 : decode cL_truncate 12 = .ok (.astore_n 3, 1) := by decide +kernel
theorem dL_truncate_13 : decode cL_truncate 13 = .ok (.iconst 1, 1) := by decide +kernel
theorem dL_truncate_14 : decode cL_truncate 14 = .ok (.ireturn, 1) := by decide +kernel
theorem dL_truncate_15 : decode cL_truncate 15 = .ok (.iconst 0, 1) := by decide +kernel
theorem dL_truncate_16 : decode cL_truncate 16 = .ok (.ireturn, 1) := by decide +kernel
set_option maxRecDepth 20000 in
theorem ggL_load_X7_load : GoodIn wsL_load wsX7_load := goodIn_ca (goodIn_r _ [6, 7, 8, 9, 10, 11, 12, 13, 14, 15, 16, 17, 18, 19, 20, 21, 22, 23, 24, 25, 26, 27, 28, 29, 30, 31, 32, 33, 34, 35, 36, 37, 38, 39, 40, 41, 42, 43, 5, 44, 45, 46, 47, 48, 49, 50, 51, 52, 53, 54, 55, 56, 57, 58, 59, 60, 61, 62, 63, 64, 65, 66, 67, 68, 69, 70, 71, 72, 73, 74, 75, 76, 77, 78, 79, 80, 81, 82, 83, 84, 85, 86, 87, 88, 89, 90, 91, 92, 93, 94, 95, 96, 97, 98, 99, 100, 101, 102, 103, 104, 105, 106, 107, 108, 109, 110, 111, 112, 113, 114, 115, 116, 117, 118, 119, 120, 121, 122, 123, 124, 125, 126, 127, 128, 129, 130, 131, 132, 133, 134, 135, 136, 137, 138, 139, 140, 141, 142, 143, 144, 145, 146, 147, 148, 149, 150, 151, 152, 153, 154, 155, 156, 157, 158, 159, 160, 161, 162, 163, 164, 165, 166, 167, 168, 169, 170, 171, 172, 173, 174, 175, 176, 177, 178, 179, 180, 181, 182, 183, 184, 185, 186, 187, 188, 189, 190, 191, 192, 193, 194, 195, 196, 197, 198, 199, 200, 201, 202, 203, 204, 205, 206, 207, 208, 209, 210, 211, 212, 213, 214, 215, 216, 217, 218, 219, 220, 221, 222, 223, 224, 225, 226, 227, 228, 229, 230, 231, 232, 233, 234, 235, 236, 237, 238, 239, 240, 241, 242, 243, 244, 245, 246, 247, 248, 249, 250, 251, 252, 253, 254, 255, 256, 257, 258, 259, 260, 261, 262, 263, 264, 265, 266, 267, 268, 269, 270, 271, 272, 273, 274, 275, 276, 277, 278, 279, 280, 281, 282, 283, 284, 285, 286, 287, 288, 289, 290, 291, 292, 293, 294, 295, 296, 297, 298, 299, 300, 301, 302, 303, 304, 305, 306, 307, 308, 309, 310, 311, 312, 313, 314, 315, 316, 317] (by decide +kernel) (by decide +kernel)) (goodIn_sub (fun _ h => List.mem_cons_of_mem _ (List.mem_append_right _ h)) (by decide +kernel))
set_option maxRecDepth 20000 in
theorem gL_load_X7_load : GoodIn wsL_load (wsV RL 21 RX7 yX7_load wsX7_load) := goodIn_app (goodIn_of _ (by decide +kernel)) ggL_load_X7_load
theorem dL_load_0 : decode cL_load 0 = .ok (.aload_n 1, 1) := by decide +kernel
theorem dL_load_1 : decode cL_load 1 = .ok (.iconst 0, 1) := by decide +kernel
theorem dL_load_2 : decode cL_load 2 = .ok (.aload_n 0, 1) := by decide +kernel
theorem dL_load_3 : decode cL_load 3 = .ok (.invokevirtual 21, 3) := by decide +kernel
theorem dL_load_6 : decode cL_load 6 = .ok (.i2l, 1) := by decide +kernel
theorem dL_load_7 : decode cL_load 7 = .ok (.lastore, 1) := by decide +kernel
theorem dL_load_8 : decode cL_load 8 = .ok (.goto 6, 3) := by decide +kernel
theorem dL_load_11 : decode cL_load 11 = .ok (.astore_n 2, 1) := by decide +kernel
theorem dL_load_12 : decode cL_load 12 = .ok (.iconst 1, 1) := by decide +kernel
theorem dL_load_13 : decode cL_load 13 = .ok (.ireturn, 1) := by decide +kernel
theorem dL_load_14 : decode cL_load 14 = .ok (.iconst 0, 1) := by decide +kernel
theorem dL_load_15 : decode cL_load 15 = .ok (.ireturn, 1) := by decide +kernel
set_option maxRecDepth 20000 in
theorem ggL_decode_X7_decode : GoodIn wsL_decode wsX7_decode := goodIn_ca (goodIn_r _ [6, 7, 8, 9, 10, 11, 12, 13, 14, 15, 16, 17, 18, 19, 20, 21, 22, 23, 24, 25, 26, 27, 28, 29, 30, 31, 32, 33, 34, 35, 36, 37, 38, 39, 40, 41, 42, 43, 44, 45, 46, 47, 48, 49, 50, 51, 52, 53, 54, 55, 56, 57, 58, 59, 60, 61, 62, 63, 5, 64, 65, 66, 67, 68, 69, 70, 71, 72, 73, 74, 75, 76, 77, 78, 79, 80, 81, 82, 83, 84, 85, 86, 87, 88, 89, 90, 91, 92, 93, 94, 95, 96, 97, 98, 99, 100, 101, 102, 103, 104, 105, 106, 107, 108, 109, 110, 111, 112, 113, 114, 115, 116, 117, 118, 119, 120, 121, 122, 123, 124, 125, 126, 127, 128, 129, 130, 131, 132, 133, 134, 135, 136, 137, 138, 139, 140, 141, 142, 143, 144, 145, 146, 147, 148, 149, 150, 151, 152, 153, 154, 155, 156, 157, 158, 159, 160, 161, 162, 163, 164, 165, 166, 167, 168, 169, 170, 171, 172, 173, 174, 175, 176, 177, 178, 179, 180, 181, 182, 183, 184, 185, 186, 187, 188] (by decide +kernel) (by decide +kernel)) (goodIn_sub (fun _ h => List.mem_cons_of_mem _ (List.mem_append_right _ h)) (by decide +kernel))
set_option maxRecDepth 20000 in
theorem gL_decode_X7_decode : GoodIn wsL_decode (wsV RL 25 RX7 yX7_decode wsX7_decode) := goodIn_app (goodIn_of _ (by decide +kernel)) ggL_decode_X7_decode
theorem dL_decode_0 : decode cL_decode 0 = .ok (.aload_n 1, 1) := by decide +kernel
theorem dL_decode_1 : decode cL_decode 1 = .ok (.iconst 0, 1) := by decide +kernel
theorem dL_decode_2 : decode cL_decode 2 = .ok (.aload_n 0, 1) := by decide +kernel
theorem dL_decode_3 : decode cL_decode 3 = .ok (.invokevirtual 25, 3) := by decide +kernel
theorem dL_decode_6 : decode cL_decode 6 = .ok (.i2l, 1) := by decide +kernel
theorem dL_decode_7 : decode cL_decode 7 = .ok (.lastore, 1) := by decide +kernel
theorem dL_decode_8 : decode cL_decode 8 = .ok (.goto 6, 3) := by decide +kernel
theorem dL_decode_11 : decode cL_decode 11 = .ok (.astore_n 2, 1) := by decide +kernel
theorem dL_decode_12 : decode cL_decode 12 = .ok (.iconst 1, 1) := by decide +kernel
theorem dL_decode_13 : decode cL_decode 13 = .ok (.ireturn, 1) := by decide +kernel
theorem dL_decode_14 : decode cL_decode 14 = .ok (.iconst 0, 1) := by decide +kernel
theorem dL_decode_15 : decode cL_decode 15 = .ok (.ireturn, 1) := by decide +kernel
set_option maxRecDepth 20000 in
theorem ggL_encode_X7_encode : GoodIn wsL_encode wsX7_encode := goodIn_ca (goodIn_ca (goodIn_r _ [7, 8, 9, 10, 11, 12, 13, 14, 6, 15, 16, 17, 18, 19, 20, 21, 22, 23, 24, 25, 26, 27, 28, 29, 30, 31, 32, 33, 34, 35, 36, 37, 38, 39, 40, 41, 42, 43, 44, 45, 46, 47, 48, 49, 50, 51, 52, 53, 54, 55, 56, 57, 58, 59, 60, 61, 62, 63, 64, 65, 66, 67, 68, 69, 70, 71, 72, 73, 74, 75, 76, 77, 78, 79, 80, 81, 82, 83, 84, 85, 86, 87, 88, 89, 90, 91, 92, 93, 94, 95, 96, 97, 98, 99, 100, 101, 102, 103, 104, 105, 106, 107, 108, 109, 110, 111, 112, 113, 114, 115, 116, 117, 118, 119, 120, 121, 122, 123, 124, 125, 126, 127, 128, 129, 130, 131, 132, 133, 134, 135, 136, 137, 138, 139, 140, 141, 142, 143, 144, 145, 146, 147, 148, 149, 150, 151, 152, 153, 154, 155, 156, 157, 158, 159, 160, 161, 162, 163, 164, 165, 166, 167, 168, 169, 170, 171, 172, 173, 174, 175, 176, 177, 178, 179, 180, 181, 182, 183, 184, 185, 186, 187, 188, 189, 190, 191, 192, 193, 194, 195, 196] (by decide +kernel) (by decide +kernel)) (goodIn_sub (fun _ h => List.mem_cons_of_mem _ (List.mem_append_left _ (List.mem_append_right _ h))) (by decide +kernel))) (goodIn_sub (fun _ h => List.mem_cons_of_mem _ (List.mem_append_right _ h)) (by decide +kernel))
set_option maxRecDepth 20000 in
theorem gL_encode_X7_encode : GoodIn wsL_encode (wsV RL 28 RX7 yX7_encode wsX7_encode) := goodIn_app (goodIn_of _ (by decide +kernel)) ggL_encode_X7_encode
theorem dL_encode_0 : decode cL_encode 0 = .ok (.aload_n 2, 1) := by decide +kernel
theorem dL_encode_1 : decode cL_encode 1 = .ok (.iconst 0, 1) := by decide +kernel
theorem dL_encode_2 : decode cL_encode 2 = .ok (.aload_n 0, 1) := by decide +kernel
theorem dL_encode_3 : decode cL_encode 3 = .ok (.iload_n 1, 1) := by decide +kernel
theorem dL_encode_4 : decode cL_encode 4 = .ok (.invokevirtual 28, 3) := by decide +kernel
theorem dL_encode_7 : decode cL_encode 7 = .ok (.i2l, 1) := by decide +kernel
theorem dL_encode_8 : decode cL_encode 8 = .ok (.lastore, 1) := by decide +kernel
theorem dL_encode_9 : decode cL_encode 9 = .ok (.goto 9, 3) := by decide +kernel
theorem dL_encode_12 : decode cL_encode 12 = .ok (.astore_n 3, 1) := by decide +kernel
theorem dL_encode_13 : decode cL_encode 13 = .ok (.iconst 1, 1) := by decide +kernel
theorem dL_encode_14 : decode cL_encode 14 = .ok (.ireturn, 1) := by decide +kernel
theorem dL_encode_15 : decode cL_encode 15 = .ok (.astore_n 3, 1) := by decide +kernel
theorem dL_encode_16 : decode cL_encode 16 = .ok (.iconst 2, 1) := by decide +kernel
theorem dL_encode_17 : decode cL_encode 17 = .ok (.ireturn, 1) := by decide +kernel
theorem dL_encode_18 : decode cL_encode 18 = .ok (.iconst 0, 1) := by decide +kernel
theorem dL_encode_19 : decode cL_encode 19 = .ok (.ireturn, 1) := by decide +kernel
set_option maxRecDepth 20000 in
theorem ggL_encodeTape_X7_encodeTape : GoodIn wsL_encodeTape wsX7_encodeTape := goodIn_ca (goodIn_ca (goodIn_r _ [7, 8, 9, 10, 11, 12, 13, 14, 15, 16, 17, 6, 18, 19, 20, 21, 22, 23, 24, 25, 26, 27, 28, 29, 30, 31, 32, 33, 34, 35, 36, 37, 38, 39, 40, 41, 42, 43, 44, 45, 46, 47, 48, 49, 50, 51, 52, 53, 54, 55, 56, 57, 58, 59, 60, 61, 62, 63, 64, 65, 66, 67, 68, 69, 70, 71, 72, 73, 74, 75, 76, 77, 78, 79, 80, 81, 82, 83, 84, 85, 86, 87, 88, 89, 90, 91, 92, 93, 94, 95, 96, 97, 98, 99, 100, 101, 102, 103, 104, 105, 106, 107, 108, 109, 110, 111, 112, 113, 114, 115, 116, 117, 118, 119, 120, 121, 122, 123, 124, 125, 126, 127, 128, 129, 130, 131, 132, 133, 134, 135, 136, 137, 138, 139, 140, 141, 142, 143, 144, 145, 146, 147, 148, 149, 150, 151, 152, 153, 154, 155, 156, 157, 158, 159, 160, 161, 162, 163, 164, 165, 166, 167, 168, 169, 170, 171, 172, 173, 174, 175, 176, 177, 178, 179, 180, 181, 182, 183, 184, 185, 186, 187, 188, 189, 190, 191, 192, 193, 194, 195] (by decide +kernel) (by decide +kernel)) (goodIn_sub (fun _ h => List.mem_cons_of_mem _ (List.mem_append_left _ (List.mem_append_right _ h))) (by decide +kernel))) (goodIn_sub (fun _ h => List.mem_cons_of_mem _ (List.mem_append_right _ h)) (by decide +kernel))
set_option maxRecDepth 20000 in
theorem gL_encodeTape_X7_encodeTape : GoodIn wsL_encodeTape (wsV RL 31 RX7 yX7_encodeTape wsX7_encodeTape) := goodIn_app (goodIn_of _ (by decide +kernel)) ggL_encodeTape_X7_encodeTape
theorem dL_encodeTape_0 : decode cL_encodeTape 0 = .ok (.aload_n 1, 1) := by decide +kernel
theorem dL_encodeTape_1 : decode cL_encodeTape 1 = .ok (.iconst 0, 1) := by decide +kernel
theorem dL_encodeTape_2 : decode cL_encodeTape 2 = .ok (.aload_n 0, 1) := by decide +kernel
theorem dL_encodeTape_3 : decode cL_encodeTape 3 = .ok (.invokevirtual 31, 3) := by decide +kernel
theorem dL_encodeTape_6 : decode cL_encodeTape 6 = .ok (.i2l, 1) := by decide +kernel
theorem dL_encodeTape_7 : decode cL_encodeTape 7 = .ok (.lastore, 1) := by decide +kernel
theorem dL_encodeTape_8 : decode cL_encodeTape 8 = .ok (.goto 9, 3) := by decide +kernel
theorem dL_encodeTape_11 : decode cL_encodeTape 11 = .ok (.astore_n 2, 1) := by decide +kernel
theorem dL_encodeTape_12 : decode cL_encodeTape 12 = .ok (.iconst 1, 1) := by decide +kernel
theorem dL_encodeTape_13 : decode cL_encodeTape 13 = .ok (.ireturn, 1) := by decide +kernel
theorem dL_encodeTape_14 : decode cL_encodeTape 14 = .ok (.astore_n 2, 1) := by decide +kernel
theorem dL_encodeTape_15 : decode cL_encodeTape 15 = .ok (.iconst 2, 1) := by decide +kernel
theorem dL_encodeTape_16 : decode cL_encodeTape 16 = .ok (.ireturn, 1) := by decide +kernel
theorem dL_encodeTape_17 : decode cL_encodeTape 17 = .ok (.iconst 0, 1) := by decide +kernel
theorem dL_encodeTape_18 : decode cL_encodeTape 18 = .ok (.ireturn, 1) := by decide +kernel
set_option maxRecDepth 20000 in
theorem ggL_setPolicy_X7_setPolicy : GoodIn wsL_setPolicy wsX7_setPolicy := goodIn_ca (goodIn_r _ [6, 7, 8, 9, 10, 11, 12, 13, 14, 15, 16, 17, 18, 19, 20, 21, 22, 23, 24, 25, 26, 27, 28, 29, 30, 31, 32, 33, 34, 35, 36, 37, 38, 39, 40, 41, 42, 43, 44, 45, 46, 47, 48, 49, 50, 51, 52, 53, 54, 55, 56, 57, 58, 59, 60, 61, 62, 63, 5, 64, 65, 66, 67, 68, 69, 70, 71, 72, 73, 74, 75, 76, 77, 78, 79, 80, 81, 82, 83, 84, 85, 86, 87, 88, 89, 90, 91, 92, 93, 94, 95, 96, 97, 98, 99, 100, 101, 102, 103, 104, 105, 106] (by decide +kernel) (by decide +kernel)) (goodIn_sub (fun _ h => List.mem_cons_of_mem _ (List.mem_append_right _ h)) (by decide +kernel))
set_option maxRecDepth 20000 in
theorem gL_setPolicy_X7_setPolicy : GoodIn wsL_setPolicy (wsV RL 34 RX7 yX7_setPolicy wsX7_setPolicy) := goodIn_app (goodIn_of _ (by decide +kernel)) ggL_setPolicy_X7_setPolicy
theorem dL_setPolicy_0 : decode cL_setPolicy 0 = .ok (.aload_n 2, 1) := by decide +kernel
theorem dL_setPolicy_1 : decode cL_setPolicy 1 = .ok (.iconst 0, 1) := by decide +kernel
theorem dL_setPolicy_2 : decode cL_setPolicy 2 = .ok (.aload_n 0, 1) := by decide +kernel
theorem dL_setPolicy_3 : decode cL_setPolicy 3 = .ok (.iload_n 1, 1) := by decide +kernel
theorem dL_setPolicy_4 : decode cL_setPolicy 4 = .ok (.invokevirtual 34, 3) := by decide +kernel
theorem dL_setPolicy_7 : decode cL_setPolicy 7 = .ok (.i2l, 1) := by decide +kernel
theorem dL_setPolicy_8 : decode cL_setPolicy 8 = .ok (.lastore, 1) := by decide +kernel
theorem dL_setPolicy_9 : decode cL_setPolicy 9 = .ok (.goto 6, 3) := by decide +kernel
theorem dL_setPolicy_12 : decode cL_setPolicy 12 = .ok (.astore_n 3, 1) := by decide +kernel
theorem dL_setPolicy_13 : decode cL_setPolicy 13 = .ok (.iconst 1, 1) := by decide +kernel
theorem dL_setPolicy_14 : decode cL_setPolicy 14 = .ok (.ireturn, 1) := by decide +kernel
theorem dL_setPolicy_15 : decode cL_setPolicy 15 = .ok (.iconst 0, 1) := by decide +kernel
theorem dL_setPolicy_16 : decode cL_setPolicy 16 = .ok (.ireturn, 1) := by decide +kernel
set_option maxRecDepth 20000 in
theorem ggL_setLimit_X7_setLimit : GoodIn wsL_setLimit wsX7_setLimit := goodIn_ca (goodIn_r _ [6, 7, 8, 9, 10, 11, 12, 13, 14, 15, 16, 17, 18, 19, 20, 21, 22, 23, 24, 25, 26, 27, 28, 29, 30, 31, 32, 33, 34, 35, 36, 37, 38, 39, 40, 41, 42, 43, 44, 45, 46, 47, 48, 49, 50, 51, 52, 53, 54, 55, 56, 57, 58, 59, 60, 61, 62, 63, 5, 64, 65, 66, 67, 68, 69, 70, 71, 72, 73, 74, 75, 76, 77, 78, 79, 80, 81, 82, 83, 84, 85, 86, 87, 88, 89, 90, 91, 92, 93, 94, 95, 96, 97, 98, 99, 100, 101, 102, 103, 104, 105, 106] (by decide +kernel) (by decide +kernel)) (goodIn_sub (fun _ h => List.mem_cons_of_mem _ (List.mem_append_right _ h)) (by decide +kernel))
set_option maxRecDepth 20000 in
theorem gL_setLimit_X7_setLimit : GoodIn wsL_setLimit (wsV RL 37 RX7 yX7_setLimit wsX7_setLimit) := goodIn_app (goodIn_of _ (by decide +kernel)) ggL_setLimit_X7_setLimit
theorem dL_setLimit_0 : decode cL_setLimit 0 = .ok (.aload_n 2, 1) := by decide +kernel
theorem dL_setLimit_1 : decode cL_setLimit 1 = .ok (.iconst 0, 1) := by decide +kernel
theorem dL_setLimit_2 : decode cL_setLimit 2 = .ok (.aload_n 0, 1) := by decide +kernel
theorem dL_setLimit_3 : decode cL_setLimit 3 = .ok (.iload_n 1, 1) := by decide +kernel
theorem dL_setLimit_4 : decode cL_setLimit 4 = .ok (.invokevirtual 37, 3) := by decide +kernel
theorem dL_setLimit_7 : decode cL_setLimit 7 = .ok (.i2l, 1) := by decide +kernel
theorem dL_setLimit_8 : decode cL_setLimit 8 = .ok (.lastore, 1) := by decide +kernel
theorem dL_setLimit_9 : decode cL_setLimit 9 = .ok (.goto 6, 3) := by decide +kernel
theorem dL_setLimit_12 : decode cL_setLimit 12 = .ok (.astore_n 3, 1) := by decide +kernel
theorem dL_setLimit_13 : decode cL_setLimit 13 = .ok (.iconst 1, 1) := by decide +kernel
theorem dL_setLimit_14 : decode cL_setLimit 14 = .ok (.ireturn, 1) := by decide +kernel
theorem dL_setLimit_15 : decode cL_setLimit 15 = .ok (.iconst 0, 1) := by decide +kernel
theorem dL_setLimit_16 : decode cL_setLimit 16 = .ok (.ireturn, 1) := by decide +kernel
set_option maxRecDepth 20000 in
theorem ggL_save_X7_save : GoodIn wsL_save wsX7_save := goodIn_ca (goodIn_r _ [6, 7, 8, 9, 10, 5, 11, 12, 13, 14, 15, 16, 17, 18, 19, 20, 21, 22, 23, 24, 25, 26, 27, 28, 29, 30, 31, 32, 33, 34, 35, 36, 37, 38, 39, 40, 41, 42, 43, 44, 45, 46, 47, 48, 49, 50, 51, 52, 53, 54, 55, 56, 57, 58, 59, 60, 61, 62, 63, 64, 65, 66, 67, 68, 69, 70, 71, 72, 73, 74, 75, 76, 77, 78, 79, 80, 81, 82, 83, 84, 85, 86, 87, 88, 89, 90, 91, 92, 93, 94, 95, 96, 97, 98, 99, 100, 101, 102, 103, 104, 105, 106, 107] (by decide +kernel) (by decide +kernel)) (goodIn_sub (fun _ h => List.mem_cons_of_mem _ (List.mem_append_right _ h)) (by decide +kernel))
set_option maxRecDepth 20000 in
theorem gL_save_X7_save : GoodIn wsL_save (wsV RL 40 RX7 yX7_save wsX7_save) := goodIn_app (goodIn_of _ (by decide +kernel)) ggL_save_X7_save
theorem dL_save_0 : decode cL_save 0 = .ok (.aload_n 0, 1) := by decide +kernel
theorem dL_save_1 : decode cL_save 1 = .ok (.iload_n 1, 1) := by decide +kernel
theorem dL_save_2 : decode cL_save 2 = .ok (.invokevirtual 40, 3) := by decide +kernel
theorem dL_save_5 : decode cL_save 5 = .ok (.goto 6, 3) := by decide +kernel
theorem dL_save_8 : decode cL_save 8 = .ok (.astore_n 2, 1) := by decide +kernel
theorem dL_save_9 : decode cL_save 9 = .ok (.iconst 1, 1) := by decide +kernel
theorem dL_save_10 : decode cL_save 10 = .ok (.ireturn, 1) := by decide +kernel
theorem dL_save_11 : decode cL_save 11 = .ok (.iconst 0, 1) := by decide +kernel
theorem dL_save_12 : decode cL_save 12 = .ok (.ireturn, 1) := by decide +kernel
set_option maxRecDepth 20000 in
theorem ggL_restore_X7_restore : GoodIn wsL_restore wsX7_restore := goodIn_ca (goodIn_ca (goodIn_r _ [7, 8, 9, 10, 11, 12, 13, 6, 14, 15, 16, 17, 18, 19, 20, 21, 22, 23, 24, 25, 26, 27, 28, 29, 30, 31, 32, 33, 34, 35, 36, 37, 38, 39, 40, 41, 42, 43, 44, 45, 46, 47, 48, 49, 50, 51, 52, 53, 54, 55, 56, 57, 58, 59, 60, 61, 62, 63, 64, 65, 66, 67, 68, 69, 70, 71, 72, 73, 74, 75, 76, 77, 78, 79, 80, 81, 82, 83, 84, 85, 86, 87, 88, 89, 90, 91, 92, 93, 94, 95, 96, 97, 98, 99, 100, 101, 102, 103, 104, 105, 106, 107, 108, 109, 110, 111, 112, 113, 114, 115, 116, 117, 118, 119, 120, 121, 122, 123, 124, 125] (by decide +kernel) (by decide +kernel)) (goodIn_sub (fun _ h => List.mem_cons_of_mem _ (List.mem_append_left _ (List.mem_append_right _ h))) (by decide +kernel))) (goodIn_sub (fun _ h => List.mem_cons_of_mem _ (List.mem_append_right _ h)) (by decide +kernel))
set_option maxRecDepth 20000 in
theorem gL_restore_X7_restore : GoodIn wsL_restore (wsV RL 44 RX7 yX7_restore wsX7_restore) := goodIn_app (goodIn_of _ (by decide +kernel)) ggL_restore_X7_restore
theorem dL_restore_0 : decode cL_restore 0 = .ok (.aload_n 2, 1) := by decide +kernel
theorem dL_restore_1 : decode cL_restore 1 = .ok (.iconst 0, 1) := by decide +kernel
theorem dL_restore_2 : decode cL_restore 2 = .ok (.aload_n 0, 1) := by decide +kernel
theorem dL_restore_3 : decode cL_restore 3 = .ok (.iload_n 1, 1) := by decide +kernel
theorem dL_restore_4 : decode cL_restore 4 = .ok (.invokevirtual 44, 3) := by decide +kernel
theorem dL_restore_7 : decode cL_restore 7 = .ok (.i2l, 1) := by decide +kernel
theorem dL_restore_8 : decode cL_restore 8 = .ok (.lastore, 1) := by decide +kernel
theorem dL_restore_9 : decode cL_restore 9 = .ok (.goto 9, 3) := by decide +kernel
theorem dL_restore_12 : decode cL_restore 12 = .ok (.astore_n 3, 1) := by decide +kernel
theorem dL_restore_13 : decode cL_restore 13 = .ok (.iconst 1, 1) := by decide +kernel
theorem dL_restore_14 : decode cL_restore 14 = .ok (.ireturn, 1) := by decide +kernel
theorem dL_restore_15 : decode cL_restore 15 = .ok (.astore_n 3, 1) := by decide +kernel
theorem dL_restore_16 : decode cL_restore 16 = .ok (.iconst 2, 1) := by decide +kernel
theorem dL_restore_17 : decode cL_restore 17 = .ok (.ireturn, 1) := by decide +kernel
theorem dL_restore_18 : decode cL_restore 18 = .ok (.iconst 0, 1) := by decide +kernel
theorem dL_restore_19 : decode cL_restore 19 = .ok (.ireturn, 1) := by decide +kernel
set_option maxRecDepth 20000 in
theorem ggL_undo_X7_undo : GoodIn wsL_undo wsX7_undo := goodIn_ca (goodIn_r _ [6, 7, 8, 9, 10, 11, 12, 13, 14, 15, 16, 17, 18, 19, 20, 21, 22, 23, 24, 25, 26, 27, 28, 29, 30, 31, 32, 33, 34, 35, 36, 37, 38, 39, 40, 41, 42, 43, 44, 45, 46, 47, 48, 49, 50, 51, 52, 53, 54, 55, 56, 57, 58, 59, 5, 60, 61, 62, 63, 64, 65, 66, 67, 68, 69, 70, 71, 72, 73, 74, 75, 76, 77, 78, 79, 80, 81, 82, 83, 84, 85, 86, 87, 88, 89, 90, 91, 92, 93, 94, 95, 96, 97, 98, 99, 100, 101, 102, 103, 104, 105] (by decide +kernel) (by decide +kernel)) (goodIn_sub (fun _ h => List.mem_cons_of_mem _ (List.mem_append_right _ h)) (by decide +kernel))
set_option maxRecDepth 20000 in
theorem gL_undo_X7_undo : GoodIn wsL_undo (wsV RL 49 RX7 yX7_undo wsX7_undo) := goodIn_app (goodIn_of _ (by decide +kernel)) ggL_undo_X7_undo
theorem dL_undo_0 : decode cL_undo 0 = .ok (.aload_n 1, 1) := by decide +kernel
theorem dL_undo_1 : decode cL_undo 1 = .ok (.iconst 0, 1) := by decide +kernel
theorem dL_undo_2 : decode cL_undo 2 = .ok (.aload_n 0, 1) := by decide +kernel
theorem dL_undo_3 : decode cL_undo 3 = .ok (.invokevirtual 49, 3) := by decide +kernel
theorem dL_undo_6 : decode cL_undo 6 = .ok (.i2l, 1) := by decide +kernel
theorem dL_undo_7 : decode cL_undo 7 = .ok (.lastore, 1) := by decide +kernel
theorem dL_undo_8 : decode cL_undo 8 = .ok (.goto 6, 3) := by decide +kernel
theorem dL_undo_11 : decode cL_undo 11 = .ok (.astore_n 2, 1) := by decide +kernel
theorem dL_undo_12 : decode cL_undo 12 = .ok (.iconst 1, 1) := by decide +kernel
theorem dL_undo_13 : decode cL_undo 13 = .ok (.ireturn, 1) := by decide +kernel
theorem dL_undo_14 : decode cL_undo 14 = .ok (.iconst 0, 1) := by decide +kernel
theorem dL_undo_15 : decode cL_undo 15 = .ok (.ireturn, 1) := by decide +kernel
set_option maxRecDepth 20000 in
theorem ggL_phraseLength_X7_phraseLength : GoodIn wsL_phraseLength wsX7_phraseLength := goodIn_ca (goodIn_r _ [6, 7, 8, 9, 10, 5, 11, 12, 13, 14, 15, 16, 17, 18, 19, 20, 21, 22, 23, 24, 25, 26, 27, 28, 29, 30, 31, 32, 33, 34, 35, 36, 37, 38, 39, 40, 41, 42, 43, 44, 45, 46, 47, 48, 49, 50, 51, 52, 53, 54, 55, 56, 57] (by decide +kernel) (by decide +kernel)) (goodIn_sub (fun _ h => List.mem_cons_of_mem _ (List.mem_append_right _ h)) (by decide +kernel))
set_option maxRecDepth 20000 in
theorem gL_phraseLength_X7_phraseLength : GoodIn wsL_phraseLength (wsV RL 52 RX7 yX7_phraseLength wsX7_phraseLength) := goodIn_app (goodIn_of _ (by decide +kernel)) ggL_phraseLength_X7_phraseLength
theorem dL_phraseLength_0 : decode cL_phraseLength 0 = .ok (.aload_n 2, 1) := by decide +kernel
theorem dL_phraseLength_1 : decode cL_phraseLength 1 = .ok (.iconst 0, 1) := by decide +kernel
theorem dL_phraseLength_2 : decode cL_phraseLength 2 = .ok (.aload_n 0, 1) := by decide +kernel
theorem dL_phraseLength_3 : decode cL_phraseLength 3 = .ok (.iload_n 1, 1) := by decide +kernel
theorem dL_phraseLength_4 : decode cL_phraseLength 4 = .ok (.invokevirtual 52, 3) := by decide +kernel
theorem dL_phraseLength_7 : decode cL_phraseLength 7 = .ok (.i2l, 1) := by decide +kernel
theorem dL_phraseLength_8 : decode cL_phraseLength 8 = .ok (.lastore, 1) := by decide +kernel
theorem dL_phraseLength_9 : decode cL_phraseLength 9 = .ok (.goto 6, 3) := by decide +kernel
theorem dL_phraseLength_12 : decode cL_phraseLength 12 = .ok (.astore_n 3, 1) := by decide +kernel
theorem dL_phraseLength_13 : decode cL_phraseLength 13 = .ok (.iconst 1, 1) := by decide +kernel
theorem dL_phraseLength_14 : decode cL_phraseLength 14 = .ok (.ireturn, 1) := by decide +kernel
theorem dL_phraseLength_15 : decode cL_phraseLength 15 = .ok (.iconst 0, 1) := by decide +kernel
theorem dL_phraseLength_16 : decode cL_phraseLength 16 = .ok (.ireturn, 1) := by decide +kernel
set_option maxRecDepth 20000 in
theorem ggL_phraseSymbol_X7_phraseSymbol : GoodIn wsL_phraseSymbol wsX7_phraseSymbol := goodIn_ca (goodIn_r _ [6, 7, 8, 9, 10, 5, 11, 12, 13, 14, 15, 16, 17, 18, 19, 20, 21, 22, 23, 24, 25, 26, 27, 28, 29, 30, 31, 32, 33, 34, 35, 36, 37, 38, 39, 40, 41, 42, 43, 44, 45, 46, 47, 48, 49, 50, 51, 52, 53, 54, 55, 56, 57, 58, 59, 60, 61, 62, 63, 64] (by decide +kernel) (by decide +kernel)) (goodIn_sub (fun _ h => List.mem_cons_of_mem _ (List.mem_append_right _ h)) (by decide +kernel))
set_option maxRecDepth 20000 in
theorem gL_phraseSymbol_X7_phraseSymbol : GoodIn wsL_phraseSymbol (wsV RL 57 RX7 yX7_phraseSymbol wsX7_phraseSymbol) := goodIn_app (goodIn_of _ (by decide +kernel)) ggL_phraseSymbol_X7_phraseSymbol
theorem dL_phraseSymbol_0 : decode cL_phraseSymbol 0 = .ok (.aload_n 3, 1) := by decide +kernel
theorem dL_phraseSymbol_1 : decode cL_phraseSymbol 1 = .ok (.iconst 0, 1) := by decide +kernel
theorem dL_phraseSymbol_2 : decode cL_phraseSymbol 2 = .ok (.aload_n 0, 1) := by decide +kernel
theorem dL_phraseSymbol_3 : decode cL_phraseSymbol 3 = .ok (.iload_n 1, 1) := by decide +kernel
theorem dL_phraseSymbol_4 : decode cL_phraseSymbol 4 = .ok (.iload_n 2, 1) := by decide +kernel
theorem dL_phraseSymbol_5 : decode cL_phraseSymbol 5 = .ok (.invokevirtual 57, 3) := by decide +kernel
theorem dL_phraseSymbol_8 : decode cL_phraseSymbol 8 = .ok (.i2l, 1) := by decide +kernel
theorem dL_phraseSymbol_9 : decode cL_phraseSymbol 9 = .ok (.lastore, 1) := by decide +kernel
theorem dL_phraseSymbol_10 : decode cL_phraseSymbol 10 = .ok (.goto 7, 3) := by decide +kernel
theorem dL_phraseSymbol_13 : decode cL_phraseSymbol 13 = .ok (.astore 4, 2) := by decide +kernel
theorem dL_phraseSymbol_15 : decode cL_phraseSymbol 15 = .ok (.iconst 1, 1) := by decide +kernel
theorem dL_phraseSymbol_16 : decode cL_phraseSymbol 16 = .ok (.ireturn, 1) := by decide +kernel
theorem dL_phraseSymbol_17 : decode cL_phraseSymbol 17 = .ok (.iconst 0, 1) := by decide +kernel
theorem dL_phraseSymbol_18 : decode cL_phraseSymbol 18 = .ok (.ireturn, 1) := by decide +kernel
set_option maxRecDepth 20000 in
theorem ggL_prefixOf_X7_prefixOf : GoodIn wsL_prefixOf wsX7_prefixOf := goodIn_ca (goodIn_ca (goodIn_r _ [7, 8, 9, 10, 11, 12, 13, 6, 14, 15, 16, 17, 18, 19, 20, 21, 22, 23, 24, 25, 26, 27, 28, 29, 30, 31, 32, 33, 34, 35, 36, 37, 38, 39, 40, 41, 42, 43, 44, 45, 46, 47, 48, 49, 50, 51, 52, 53, 54, 55, 56, 57, 58, 59, 60, 61] (by decide +kernel) (by decide +kernel)) (goodIn_sub (fun _ h => List.mem_cons_of_mem _ (List.mem_append_left _ (List.mem_append_right _ h))) (by decide +kernel))) (goodIn_sub (fun _ h => List.mem_cons_of_mem _ (List.mem_append_right _ h)) (by decide +kernel))
set_option maxRecDepth 20000 in
theorem gL_prefixOf_X7_prefixOf : GoodIn wsL_prefixOf (wsV RL 61 RX7 yX7_prefixOf wsX7_prefixOf) := goodIn_app (goodIn_of _ (by decide +kernel)) ggL_prefixOf_X7_prefixOf
theorem dL_prefixOf_0 : decode cL_prefixOf 0 = .ok (.aload_n 2, 1) := by decide +kernel
theorem dL_prefixOf_1 : decode cL_prefixOf 1 = .ok (.iconst 0, 1) := by decide +kernel
theorem dL_prefixOf_2 : decode cL_prefixOf 2 = .ok (.aload_n 0, 1) := by decide +kernel
theorem dL_prefixOf_3 : decode cL_prefixOf 3 = .ok (.iload_n 1, 1) := by decide +kernel
theorem dL_prefixOf_4 : decode cL_prefixOf 4 = .ok (.invokevirtual 61, 3) := by decide +kernel
theorem dL_prefixOf_7 : decode cL_prefixOf 7 = .ok (.i2l, 1) := by decide +kernel
theorem dL_prefixOf_8 : decode cL_prefixOf 8 = .ok (.lastore, 1) := by decide +kernel
theorem dL_prefixOf_9 : decode cL_prefixOf 9 = .ok (.goto 9, 3) := by decide +kernel
theorem dL_prefixOf_12 : decode cL_prefixOf 12 = .ok (.astore_n 3, 1) := by decide +kernel
theorem dL_prefixOf_13 : decode cL_prefixOf 13 = .ok (.iconst 1, 1) := by decide +kernel
theorem dL_prefixOf_14 : decode cL_prefixOf 14 = .ok (.ireturn, 1) := by decide +kernel
theorem dL_prefixOf_15 : decode cL_prefixOf 15 = .ok (.astore_n 3, 1) := by decide +kernel
theorem dL_prefixOf_16 : decode cL_prefixOf 16 = .ok (.iconst 2, 1) := by decide +kernel
theorem dL_prefixOf_17 : decode cL_prefixOf 17 = .ok (.ireturn, 1) := by decide +kernel
theorem dL_prefixOf_18 : decode cL_prefixOf 18 = .ok (.iconst 0, 1) := by decide +kernel
theorem dL_prefixOf_19 : decode cL_prefixOf 19 = .ok (.ireturn, 1) := by decide +kernel
set_option maxRecDepth 20000 in
theorem ggL_extensionOf_X7_extensionOf : GoodIn wsL_extensionOf wsX7_extensionOf := goodIn_ca (goodIn_ca (goodIn_ca (goodIn_r _ [8, 9, 10, 11, 12, 13, 14, 15, 16, 7, 17, 18, 19, 20, 21, 22, 23, 24, 25, 26, 27, 28, 29, 30, 31, 32, 33, 34, 35, 36, 37, 38, 39, 40, 41, 42, 43, 44, 45, 46, 47, 48, 49, 50, 51, 52, 53, 54, 55, 56, 57, 58, 59, 60, 61, 62, 63, 64, 65, 66, 67, 68, 69, 70, 71, 72, 73, 74] (by decide +kernel) (by decide +kernel)) (goodIn_sub (fun _ h => List.mem_cons_of_mem _ (List.mem_append_left _ (List.mem_append_left _ (List.mem_append_right _ h)))) (by decide +kernel))) (goodIn_sub (fun _ h => List.mem_cons_of_mem _ (List.mem_append_left _ (List.mem_append_right _ h))) (by decide +kernel))) (goodIn_sub (fun _ h => List.mem_cons_of_mem _ (List.mem_append_right _ h)) (by decide +kernel))
set_option maxRecDepth 20000 in
theorem gL_extensionOf_X7_extensionOf : GoodIn wsL_extensionOf (wsV RL 64 RX7 yX7_extensionOf wsX7_extensionOf) := goodIn_app (goodIn_of _ (by decide +kernel)) ggL_extensionOf_X7_extensionOf
theorem dL_extensionOf_0 : decode cL_extensionOf 0 = .ok (.aload_n 3, 1) := by decide +kernel
theorem dL_extensionOf_1 : decode cL_extensionOf 1 = .ok (.iconst 0, 1) := by decide +kernel
theorem dL_extensionOf_2 : decode cL_extensionOf 2 = .ok (.aload_n 0, 1) := by decide +kernel
theorem dL_extensionOf_3 : decode cL_extensionOf 3 = .ok (.iload_n 1, 1) := by decide +kernel
theorem dL_extensionOf_4 : decode cL_extensionOf 4 = .ok (.iload_n 2, 1) := by decide +kernel
theorem dL_extensionOf_5 : decode cL_extensionOf 5 = .ok (.invokevirtual 64, 3) := by decide +kernel
theorem dL_extensionOf_8 : decode cL_extensionOf 8 = .ok (.i2l, 1) := by decide +kernel
theorem dL_extensionOf_9 : decode cL_extensionOf 9 = .ok (.lastore, 1) := by decide +kernel
theorem dL_extensionOf_10 : decode cL_extensionOf 10 = .ok (.goto 15, 3) := by decide +kernel
theorem dL_extensionOf_13 : decode cL_extensionOf 13 = .ok (.astore 4, 2) := by decide +kernel
theorem dL_extensionOf_15 : decode cL_extensionOf 15 = .ok (.iconst 1, 1) := by decide +kernel
theorem dL_extensionOf_16 : decode cL_extensionOf 16 = .ok (.ireturn, 1) := by decide +kernel
theorem dL_extensionOf_17 : decode cL_extensionOf 17 = .ok (.astore 4, 2) := by decide +kernel
theorem dL_extensionOf_19 : decode cL_extensionOf 19 = .ok (.iconst 2, 1) := by decide +kernel
theorem dL_extensionOf_20 : decode cL_extensionOf 20 = .ok (.ireturn, 1) := by decide +kernel
theorem dL_extensionOf_21 : decode cL_extensionOf 21 = .ok (.astore 4, 2) := by decide +kernel
theorem dL_extensionOf_23 : decode cL_extensionOf 23 = .ok (.iconst 3, 1) := by decide +kernel
theorem dL_extensionOf_24 : decode cL_extensionOf 24 = .ok (.ireturn, 1) := by decide +kernel
theorem dL_extensionOf_25 : decode cL_extensionOf 25 = .ok (.iconst 0, 1) := by decide +kernel
theorem dL_extensionOf_26 : decode cL_extensionOf 26 = .ok (.ireturn, 1) := by decide +kernel
set_option maxRecDepth 20000 in
theorem ggL_extensionCount_X7_extensionCount : GoodIn wsL_extensionCount wsX7_extensionCount := goodIn_ca (goodIn_r _ [6, 7, 8, 9, 10, 5, 11, 12, 13, 14, 15, 16, 17, 18, 19, 20, 21, 22, 23, 24, 25, 26, 27, 28, 29, 30, 31, 32, 33, 34, 35, 36, 37, 38, 39, 40, 41, 42, 43, 44, 45, 46, 47, 48, 49, 50, 51, 52, 53, 54, 55, 56, 57, 58, 59] (by decide +kernel) (by decide +kernel)) (goodIn_sub (fun _ h => List.mem_cons_of_mem _ (List.mem_append_right _ h)) (by decide +kernel))
set_option maxRecDepth 20000 in
theorem gL_extensionCount_X7_extensionCount : GoodIn wsL_extensionCount (wsV RL 67 RX7 yX7_extensionCount wsX7_extensionCount) := goodIn_app (goodIn_of _ (by decide +kernel)) ggL_extensionCount_X7_extensionCount
theorem dL_extensionCount_0 : decode cL_extensionCount 0 = .ok (.aload_n 2, 1) := by decide +kernel
theorem dL_extensionCount_1 : decode cL_extensionCount 1 = .ok (.iconst 0, 1) := by decide +kernel
theorem dL_extensionCount_2 : decode cL_extensionCount 2 = .ok (.aload_n 0, 1) := by decide +kernel
theorem dL_extensionCount_3 : decode cL_extensionCount 3 = .ok (.iload_n 1, 1) := by decide +kernel
theorem dL_extensionCount_4 : decode cL_extensionCount 4 = .ok (.invokevirtual 67, 3) := by decide +kernel
theorem dL_extensionCount_7 : decode cL_extensionCount 7 = .ok (.i2l, 1) := by decide +kernel
theorem dL_extensionCount_8 : decode cL_extensionCount 8 = .ok (.lastore, 1) := by decide +kernel
theorem dL_extensionCount_9 : decode cL_extensionCount 9 = .ok (.goto 6, 3) := by decide +kernel
theorem dL_extensionCount_12 : decode cL_extensionCount 12 = .ok (.astore_n 3, 1) := by decide +kernel
theorem dL_extensionCount_13 : decode cL_extensionCount 13 = .ok (.iconst 1, 1) := by decide +kernel
theorem dL_extensionCount_14 : decode cL_extensionCount 14 = .ok (.ireturn, 1) := by decide +kernel
theorem dL_extensionCount_15 : decode cL_extensionCount 15 = .ok (.iconst 0, 1) := by decide +kernel
theorem dL_extensionCount_16 : decode cL_extensionCount 16 = .ok (.ireturn, 1) := by decide +kernel
set_option maxRecDepth 20000 in
theorem ggL_usesOf_X7_usesOf : GoodIn wsL_usesOf wsX7_usesOf := goodIn_ca (goodIn_r _ [6, 7, 8, 9, 10, 5, 11, 12, 13, 14, 15, 16, 17, 18, 19, 20, 21, 22, 23, 24, 25, 26, 27, 28, 29, 30, 31, 32, 33, 34, 35, 36, 37, 38, 39, 40, 41, 42, 43, 44, 45, 46, 47, 48, 49, 50, 51, 52, 53, 54, 55, 56, 57, 58] (by decide +kernel) (by decide +kernel)) (goodIn_sub (fun _ h => List.mem_cons_of_mem _ (List.mem_append_right _ h)) (by decide +kernel))
set_option maxRecDepth 20000 in
theorem gL_usesOf_X7_usesOf : GoodIn wsL_usesOf (wsV RL 70 RX7 yX7_usesOf wsX7_usesOf) := goodIn_app (goodIn_of _ (by decide +kernel)) ggL_usesOf_X7_usesOf
theorem dL_usesOf_0 : decode cL_usesOf 0 = .ok (.aload_n 2, 1) := by decide +kernel
theorem dL_usesOf_1 : decode cL_usesOf 1 = .ok (.iconst 0, 1) := by decide +kernel
theorem dL_usesOf_2 : decode cL_usesOf 2 = .ok (.aload_n 0, 1) := by decide +kernel
theorem dL_usesOf_3 : decode cL_usesOf 3 = .ok (.iload_n 1, 1) := by decide +kernel
theorem dL_usesOf_4 : decode cL_usesOf 4 = .ok (.invokevirtual 70, 3) := by decide +kernel
theorem dL_usesOf_7 : decode cL_usesOf 7 = .ok (.i2l, 1) := by decide +kernel
theorem dL_usesOf_8 : decode cL_usesOf 8 = .ok (.lastore, 1) := by decide +kernel
theorem dL_usesOf_9 : decode cL_usesOf 9 = .ok (.goto 6, 3) := by decide +kernel
theorem dL_usesOf_12 : decode cL_usesOf 12 = .ok (.astore_n 3, 1) := by decide +kernel
theorem dL_usesOf_13 : decode cL_usesOf 13 = .ok (.iconst 1, 1) := by decide +kernel
theorem dL_usesOf_14 : decode cL_usesOf 14 = .ok (.ireturn, 1) := by decide +kernel
theorem dL_usesOf_15 : decode cL_usesOf 15 = .ok (.iconst 0, 1) := by decide +kernel
theorem dL_usesOf_16 : decode cL_usesOf 16 = .ok (.ireturn, 1) := by decide +kernel
set_option maxRecDepth 20000 in
theorem ggL_findTape_X7_findTape : GoodIn wsL_findTape wsX7_findTape := goodIn_ca (goodIn_r _ [6, 7, 8, 9, 10, 11, 5, 12, 13, 14, 15, 16, 17, 18, 19, 20, 21, 22, 23, 24, 25, 26, 27, 28, 29, 30, 31, 32, 33, 34, 35, 36, 37, 38, 39, 40, 41, 42, 43, 44, 45, 46, 47, 48, 49, 50, 51, 52, 53, 54, 55, 56, 57, 58, 59, 60, 61, 62, 63, 64] (by decide +kernel) (by decide +kernel)) (goodIn_sub (fun _ h => List.mem_cons_of_mem _ (List.mem_append_right _ h)) (by decide +kernel))
set_option maxRecDepth 20000 in
theorem gL_findTape_X7_findTape : GoodIn wsL_findTape (wsV RL 73 RX7 yX7_findTape wsX7_findTape) := goodIn_app (goodIn_of _ (by decide +kernel)) ggL_findTape_X7_findTape
theorem dL_findTape_0 : decode cL_findTape 0 = .ok (.aload_n 1, 1) := by decide +kernel
theorem dL_findTape_1 : decode cL_findTape 1 = .ok (.iconst 0, 1) := by decide +kernel
theorem dL_findTape_2 : decode cL_findTape 2 = .ok (.aload_n 0, 1) := by decide +kernel
theorem dL_findTape_3 : decode cL_findTape 3 = .ok (.invokevirtual 73, 3) := by decide +kernel
theorem dL_findTape_6 : decode cL_findTape 6 = .ok (.i2l, 1) := by decide +kernel
theorem dL_findTape_7 : decode cL_findTape 7 = .ok (.lastore, 1) := by decide +kernel
theorem dL_findTape_8 : decode cL_findTape 8 = .ok (.goto 6, 3) := by decide +kernel
theorem dL_findTape_11 : decode cL_findTape 11 = .ok (.astore_n 2, 1) := by decide +kernel
theorem dL_findTape_12 : decode cL_findTape 12 = .ok (.iconst 1, 1) := by decide +kernel
theorem dL_findTape_13 : decode cL_findTape 13 = .ok (.ireturn, 1) := by decide +kernel
theorem dL_findTape_14 : decode cL_findTape 14 = .ok (.iconst 0, 1) := by decide +kernel
theorem dL_findTape_15 : decode cL_findTape 15 = .ok (.ireturn, 1) := by decide +kernel
set_option maxRecDepth 20000 in
theorem ggL_currentPhrase_X7_currentPhrase : GoodIn wsL_currentPhrase wsX7_currentPhrase := goodIn_ca (goodIn_r _ [6, 7, 8, 9, 10, 11, 12, 13, 14, 15, 16, 17, 18, 19, 20, 21, 22, 23, 24, 25, 26, 27, 28, 29, 30, 31, 32, 33, 34] (by decide +kernel) (by decide +kernel)) (goodIn_sub (fun _ h => List.mem_cons_of_mem _ (List.mem_append_right _ h)) (by decide +kernel))
set_option maxRecDepth 20000 in
theorem gL_currentPhrase_X7_currentPhrase : GoodIn wsL_currentPhrase (wsV RL 76 RX7 yX7_currentPhrase wsX7_currentPhrase) := goodIn_app (goodIn_of _ (by decide +kernel)) ggL_currentPhrase_X7_currentPhrase
theorem dL_currentPhrase_0 : decode cL_currentPhrase 0 = .ok (.aload_n 1, 1) := by decide +kernel
theorem dL_currentPhrase_1 : decode cL_currentPhrase 1 = .ok (.iconst 0, 1) := by decide +kernel
theorem dL_currentPhrase_2 : decode cL_currentPhrase 2 = .ok (.aload_n 0, 1) := by decide +kernel
theorem dL_currentPhrase_3 : decode cL_currentPhrase 3 = .ok (.invokevirtual 76, 3) := by decide +kernel
theorem dL_currentPhrase_6 : decode cL_currentPhrase 6 = .ok (.i2l, 1) := by decide +kernel
theorem dL_currentPhrase_7 : decode cL_currentPhrase 7 = .ok (.lastore, 1) := by decide +kernel
theorem dL_currentPhrase_8 : decode cL_currentPhrase 8 = .ok (.goto 6, 3) := by decide +kernel
theorem dL_currentPhrase_11 : decode cL_currentPhrase 11 = .ok (.astore_n 2, 1) := by decide +kernel
theorem dL_currentPhrase_12 : decode cL_currentPhrase 12 = .ok (.iconst 1, 1) := by decide +kernel
theorem dL_currentPhrase_13 : decode cL_currentPhrase 13 = .ok (.ireturn, 1) := by decide +kernel
theorem dL_currentPhrase_14 : decode cL_currentPhrase 14 = .ok (.iconst 0, 1) := by decide +kernel
theorem dL_currentPhrase_15 : decode cL_currentPhrase 15 = .ok (.ireturn, 1) := by decide +kernel
set_option maxRecDepth 20000 in
theorem ggL_codesIfEncoded_X7_codesIfEncoded : GoodIn wsL_codesIfEncoded wsX7_codesIfEncoded := goodIn_ca (goodIn_r _ [6, 7, 8, 9, 10, 5, 11, 12, 13, 14, 15, 16, 17, 18, 19, 20, 21, 22, 23, 24, 25, 26, 27, 28, 29, 30, 31, 32, 33, 34, 35, 36, 37, 38, 39, 40, 41, 42, 43, 44, 45, 46, 47, 48, 49, 50, 51, 52, 53, 54, 55, 56, 57, 58, 59, 60, 61, 62, 63, 64, 65, 66, 67, 68, 69, 70, 71, 72, 73, 74, 75, 76, 77, 78, 79, 80, 81, 82, 83, 84, 85, 86, 87, 88, 89, 90, 91, 92, 93, 94, 95, 96, 97, 98, 99, 100, 101, 102, 103, 104, 105] (by decide +kernel) (by decide +kernel)) (goodIn_sub (fun _ h => List.mem_cons_of_mem _ (List.mem_append_right _ h)) (by decide +kernel))
set_option maxRecDepth 20000 in
theorem gL_codesIfEncoded_X7_codesIfEncoded : GoodIn wsL_codesIfEncoded (wsV RL 79 RX7 yX7_codesIfEncoded wsX7_codesIfEncoded) := goodIn_app (goodIn_of _ (by decide +kernel)) ggL_codesIfEncoded_X7_codesIfEncoded
theorem dL_codesIfEncoded_0 : decode cL_codesIfEncoded 0 = .ok (.aload_n 2, 1) := by decide +kernel
theorem dL_codesIfEncoded_1 : decode cL_codesIfEncoded 1 = .ok (.iconst 0, 1) := by decide +kernel
theorem dL_codesIfEncoded_2 : decode cL_codesIfEncoded 2 = .ok (.aload_n 0, 1) := by decide +kernel
theorem dL_codesIfEncoded_3 : decode cL_codesIfEncoded 3 = .ok (.iload_n 1, 1) := by decide +kernel
theorem dL_codesIfEncoded_4 : decode cL_codesIfEncoded 4 = .ok (.invokevirtual 79, 3) := by decide +kernel
theorem dL_codesIfEncoded_7 : decode cL_codesIfEncoded 7 = .ok (.i2l, 1) := by decide +kernel
theorem dL_codesIfEncoded_8 : decode cL_codesIfEncoded 8 = .ok (.lastore, 1) := by decide +kernel
theorem dL_codesIfEncoded_9 : decode cL_codesIfEncoded 9 = .ok (.goto 6, 3) := by decide +kernel
theorem dL_codesIfEncoded_12 : decode cL_codesIfEncoded 12 = .ok (.astore_n 3, 1) := by decide +kernel
theorem dL_codesIfEncoded_13 : decode cL_codesIfEncoded 13 = .ok (.iconst 1, 1) := by decide +kernel
theorem dL_codesIfEncoded_14 : decode cL_codesIfEncoded 14 = .ok (.ireturn, 1) := by decide +kernel
theorem dL_codesIfEncoded_15 : decode cL_codesIfEncoded 15 = .ok (.iconst 0, 1) := by decide +kernel
theorem dL_codesIfEncoded_16 : decode cL_codesIfEncoded 16 = .ok (.ireturn, 1) := by decide +kernel
set_option maxRecDepth 20000 in
theorem ggL_clearsIfEncoded_X7_clearsIfEncoded : GoodIn wsL_clearsIfEncoded wsX7_clearsIfEncoded := goodIn_ca (goodIn_r _ [6, 7, 8, 9, 10, 5, 11, 12, 13, 14, 15, 16, 17, 18, 19, 20, 21, 22, 23, 24, 25, 26, 27, 28, 29, 30, 31, 32, 33, 34, 35, 36, 37, 38, 39, 40, 41, 42, 43, 44, 45, 46, 47, 48, 49, 50, 51, 52, 53, 54, 55, 56, 57, 58, 59, 60, 61, 62, 63, 64, 65, 66, 67, 68, 69, 70, 71, 72, 73, 74, 75, 76, 77, 78, 79, 80, 81, 82, 83, 84, 85, 86, 87, 88, 89, 90, 91, 92, 93, 94, 95, 96, 97, 98, 99, 100, 101, 102, 103, 104, 105] (by decide +kernel) (by decide +kernel)) (goodIn_sub (fun _ h => List.mem_cons_of_mem _ (List.mem_append_right _ h)) (by decide +kernel))
set_option maxRecDepth 20000 in
theorem gL_clearsIfEncoded_X7_clearsIfEncoded : GoodIn wsL_clearsIfEncoded (wsV RL 82 RX7 yX7_clearsIfEncoded wsX7_clearsIfEncoded) := goodIn_app (goodIn_of _ (by decide +kernel)) ggL_clearsIfEncoded_X7_clearsIfEncoded
theorem dL_clearsIfEncoded_0 : decode cL_clearsIfEncoded 0 = .ok (.aload_n 2, 1) := by decide +kernel
theorem dL_clearsIfEncoded_1 : decode cL_clearsIfEncoded 1 = .ok (.iconst 0, 1) := by decide +kernel
theorem dL_clearsIfEncoded_2 : decode cL_clearsIfEncoded 2 = .ok (.aload_n 0, 1) := by decide +kernel
theorem dL_clearsIfEncoded_3 : decode cL_clearsIfEncoded 3 = .ok (.iload_n 1, 1) := by decide +kernel
theorem dL_clearsIfEncoded_4 : decode cL_clearsIfEncoded 4 = .ok (.invokevirtual 82, 3) := by decide +kernel
theorem dL_clearsIfEncoded_7 : decode cL_clearsIfEncoded 7 = .ok (.i2l, 1) := by decide +kernel
theorem dL_clearsIfEncoded_8 : decode cL_clearsIfEncoded 8 = .ok (.lastore, 1) := by decide +kernel
theorem dL_clearsIfEncoded_9 : decode cL_clearsIfEncoded 9 = .ok (.goto 6, 3) := by decide +kernel
theorem dL_clearsIfEncoded_12 : decode cL_clearsIfEncoded 12 = .ok (.astore_n 3, 1) := by decide +kernel
theorem dL_clearsIfEncoded_13 : decode cL_clearsIfEncoded 13 = .ok (.iconst 1, 1) := by decide +kernel
theorem dL_clearsIfEncoded_14 : decode cL_clearsIfEncoded 14 = .ok (.ireturn, 1) := by decide +kernel
theorem dL_clearsIfEncoded_15 : decode cL_clearsIfEncoded 15 = .ok (.iconst 0, 1) := by decide +kernel
theorem dL_clearsIfEncoded_16 : decode cL_clearsIfEncoded 16 = .ok (.ireturn, 1) := by decide +kernel
set_option maxRecDepth 20000 in
theorem ggL_encodedSymbol_X7_encodedSymbol : GoodIn wsL_encodedSymbol wsX7_encodedSymbol := goodIn_ca (goodIn_r _ [6, 7, 8, 9, 5, 10, 11, 12, 13, 14, 15, 16, 17, 18, 19, 20, 21, 22, 23, 24, 25, 26, 27, 28, 29, 30, 31, 32, 33, 34, 35, 36, 37, 38, 39, 40] (by decide +kernel) (by decide +kernel)) (goodIn_sub (fun _ h => List.mem_cons_of_mem _ (List.mem_append_right _ h)) (by decide +kernel))
set_option maxRecDepth 20000 in
theorem gL_encodedSymbol_X7_encodedSymbol : GoodIn wsL_encodedSymbol (wsV RL 85 RX7 yX7_encodedSymbol wsX7_encodedSymbol) := goodIn_app (goodIn_of _ (by decide +kernel)) ggL_encodedSymbol_X7_encodedSymbol
theorem dL_encodedSymbol_0 : decode cL_encodedSymbol 0 = .ok (.aload_n 2, 1) := by decide +kernel
theorem dL_encodedSymbol_1 : decode cL_encodedSymbol 1 = .ok (.iconst 0, 1) := by decide +kernel
theorem dL_encodedSymbol_2 : decode cL_encodedSymbol 2 = .ok (.aload_n 0, 1) := by decide +kernel
theorem dL_encodedSymbol_3 : decode cL_encodedSymbol 3 = .ok (.iload_n 1, 1) := by decide +kernel
theorem dL_encodedSymbol_4 : decode cL_encodedSymbol 4 = .ok (.invokevirtual 85, 3) := by decide +kernel
theorem dL_encodedSymbol_7 : decode cL_encodedSymbol 7 = .ok (.i2l, 1) := by decide +kernel
theorem dL_encodedSymbol_8 : decode cL_encodedSymbol 8 = .ok (.lastore, 1) := by decide +kernel
theorem dL_encodedSymbol_9 : decode cL_encodedSymbol 9 = .ok (.goto 6, 3) := by decide +kernel
theorem dL_encodedSymbol_12 : decode cL_encodedSymbol 12 = .ok (.astore_n 3, 1) := by decide +kernel
theorem dL_encodedSymbol_13 : decode cL_encodedSymbol 13 = .ok (.iconst 1, 1) := by decide +kernel
theorem dL_encodedSymbol_14 : decode cL_encodedSymbol 14 = .ok (.ireturn, 1) := by decide +kernel
theorem dL_encodedSymbol_15 : decode cL_encodedSymbol 15 = .ok (.iconst 0, 1) := by decide +kernel
theorem dL_encodedSymbol_16 : decode cL_encodedSymbol 16 = .ok (.ireturn, 1) := by decide +kernel
set_option maxRecDepth 20000 in
theorem ggL_writtenCode_X7_writtenCode : GoodIn wsL_writtenCode wsX7_writtenCode := goodIn_ca (goodIn_r _ [6, 7, 8, 9, 5, 10, 11, 12, 13, 14, 15, 16, 17, 18, 19, 20, 21, 22, 23, 24, 25, 26, 27, 28, 29, 30, 31, 32, 33, 34, 35, 36, 37, 38, 39, 40] (by decide +kernel) (by decide +kernel)) (goodIn_sub (fun _ h => List.mem_cons_of_mem _ (List.mem_append_right _ h)) (by decide +kernel))
set_option maxRecDepth 20000 in
theorem gL_writtenCode_X7_writtenCode : GoodIn wsL_writtenCode (wsV RL 88 RX7 yX7_writtenCode wsX7_writtenCode) := goodIn_app (goodIn_of _ (by decide +kernel)) ggL_writtenCode_X7_writtenCode
theorem dL_writtenCode_0 : decode cL_writtenCode 0 = .ok (.aload_n 2, 1) := by decide +kernel
theorem dL_writtenCode_1 : decode cL_writtenCode 1 = .ok (.iconst 0, 1) := by decide +kernel
theorem dL_writtenCode_2 : decode cL_writtenCode 2 = .ok (.aload_n 0, 1) := by decide +kernel
theorem dL_writtenCode_3 : decode cL_writtenCode 3 = .ok (.iload_n 1, 1) := by decide +kernel
theorem dL_writtenCode_4 : decode cL_writtenCode 4 = .ok (.invokevirtual 88, 3) := by decide +kernel
theorem dL_writtenCode_7 : decode cL_writtenCode 7 = .ok (.i2l, 1) := by decide +kernel
theorem dL_writtenCode_8 : decode cL_writtenCode 8 = .ok (.lastore, 1) := by decide +kernel
theorem dL_writtenCode_9 : decode cL_writtenCode 9 = .ok (.goto 6, 3) := by decide +kernel
theorem dL_writtenCode_12 : decode cL_writtenCode 12 = .ok (.astore_n 3, 1) := by decide +kernel
theorem dL_writtenCode_13 : decode cL_writtenCode 13 = .ok (.iconst 1, 1) := by decide +kernel
theorem dL_writtenCode_14 : decode cL_writtenCode 14 = .ok (.ireturn, 1) := by decide +kernel
theorem dL_writtenCode_15 : decode cL_writtenCode 15 = .ok (.iconst 0, 1) := by decide +kernel
theorem dL_writtenCode_16 : decode cL_writtenCode 16 = .ok (.ireturn, 1) := by decide +kernel
set_option maxRecDepth 20000 in
theorem ggL_writtenWidth_X7_writtenWidth : GoodIn wsL_writtenWidth wsX7_writtenWidth := goodIn_ca (goodIn_r _ [6, 7, 8, 9, 5, 10, 11, 12, 13, 14, 15, 16, 17, 18, 19, 20, 21, 22, 23, 24, 25, 26, 27, 28, 29, 30, 31, 32, 33, 34, 35, 36, 37, 38, 39, 40] (by decide +kernel) (by decide +kernel)) (goodIn_sub (fun _ h => List.mem_cons_of_mem _ (List.mem_append_right _ h)) (by decide +kernel))
set_option maxRecDepth 20000 in
theorem gL_writtenWidth_X7_writtenWidth : GoodIn wsL_writtenWidth (wsV RL 91 RX7 yX7_writtenWidth wsX7_writtenWidth) := goodIn_app (goodIn_of _ (by decide +kernel)) ggL_writtenWidth_X7_writtenWidth
theorem dL_writtenWidth_0 : decode cL_writtenWidth 0 = .ok (.aload_n 2, 1) := by decide +kernel
theorem dL_writtenWidth_1 : decode cL_writtenWidth 1 = .ok (.iconst 0, 1) := by decide +kernel
theorem dL_writtenWidth_2 : decode cL_writtenWidth 2 = .ok (.aload_n 0, 1) := by decide +kernel
theorem dL_writtenWidth_3 : decode cL_writtenWidth 3 = .ok (.iload_n 1, 1) := by decide +kernel
theorem dL_writtenWidth_4 : decode cL_writtenWidth 4 = .ok (.invokevirtual 91, 3) := by decide +kernel
theorem dL_writtenWidth_7 : decode cL_writtenWidth 7 = .ok (.i2l, 1) := by decide +kernel
theorem dL_writtenWidth_8 : decode cL_writtenWidth 8 = .ok (.lastore, 1) := by decide +kernel
theorem dL_writtenWidth_9 : decode cL_writtenWidth 9 = .ok (.goto 6, 3) := by decide +kernel
theorem dL_writtenWidth_12 : decode cL_writtenWidth 12 = .ok (.astore_n 3, 1) := by decide +kernel
theorem dL_writtenWidth_13 : decode cL_writtenWidth 13 = .ok (.iconst 1, 1) := by decide +kernel
theorem dL_writtenWidth_14 : decode cL_writtenWidth 14 = .ok (.ireturn, 1) := by decide +kernel
theorem dL_writtenWidth_15 : decode cL_writtenWidth 15 = .ok (.iconst 0, 1) := by decide +kernel
theorem dL_writtenWidth_16 : decode cL_writtenWidth 16 = .ok (.ireturn, 1) := by decide +kernel
set_option maxRecDepth 20000 in
theorem ggL_bitAt_X7_bitAt : GoodIn wsL_bitAt wsX7_bitAt := goodIn_ca (goodIn_r _ [6, 7, 8, 9, 5, 10, 11, 12, 13, 14, 15, 16, 17, 18, 19, 20, 21, 22, 23, 24, 25, 26, 27, 28, 29, 30, 31, 32, 33, 34, 35, 36, 37, 38, 39, 40, 41, 42, 43, 44, 45, 46, 47, 48, 49, 50, 51] (by decide +kernel) (by decide +kernel)) (goodIn_sub (fun _ h => List.mem_cons_of_mem _ (List.mem_append_right _ h)) (by decide +kernel))
set_option maxRecDepth 20000 in
theorem gL_bitAt_X7_bitAt : GoodIn wsL_bitAt (wsV RL 94 RX7 yX7_bitAt wsX7_bitAt) := goodIn_app (goodIn_of _ (by decide +kernel)) ggL_bitAt_X7_bitAt
theorem dL_bitAt_0 : decode cL_bitAt 0 = .ok (.aload_n 2, 1) := by decide +kernel
theorem dL_bitAt_1 : decode cL_bitAt 1 = .ok (.iconst 0, 1) := by decide +kernel
theorem dL_bitAt_2 : decode cL_bitAt 2 = .ok (.aload_n 0, 1) := by decide +kernel
theorem dL_bitAt_3 : decode cL_bitAt 3 = .ok (.iload_n 1, 1) := by decide +kernel
theorem dL_bitAt_4 : decode cL_bitAt 4 = .ok (.invokevirtual 94, 3) := by decide +kernel
theorem dL_bitAt_7 : decode cL_bitAt 7 = .ok (.i2l, 1) := by decide +kernel
theorem dL_bitAt_8 : decode cL_bitAt 8 = .ok (.lastore, 1) := by decide +kernel
theorem dL_bitAt_9 : decode cL_bitAt 9 = .ok (.goto 6, 3) := by decide +kernel
theorem dL_bitAt_12 : decode cL_bitAt 12 = .ok (.astore_n 3, 1) := by decide +kernel
theorem dL_bitAt_13 : decode cL_bitAt 13 = .ok (.iconst 1, 1) := by decide +kernel
theorem dL_bitAt_14 : decode cL_bitAt 14 = .ok (.ireturn, 1) := by decide +kernel
theorem dL_bitAt_15 : decode cL_bitAt 15 = .ok (.iconst 0, 1) := by decide +kernel
theorem dL_bitAt_16 : decode cL_bitAt 16 = .ok (.ireturn, 1) := by decide +kernel
set_option maxRecDepth 20000 in
theorem ggL_byteAt_X7_byteAt : GoodIn wsL_byteAt wsX7_byteAt := goodIn_ca (goodIn_r _ [6, 7, 8, 9, 10, 5, 11, 12, 13, 14, 15, 16, 17, 18, 19, 20, 21, 22, 23, 24, 25, 26, 27, 28, 29, 30, 31, 32, 33, 34, 35, 36, 37, 38, 39, 40, 41, 42, 43, 44, 45, 46, 47, 48, 49, 50, 51, 52, 53, 54, 55] (by decide +kernel) (by decide +kernel)) (goodIn_sub (fun _ h => List.mem_cons_of_mem _ (List.mem_append_right _ h)) (by decide +kernel))
set_option maxRecDepth 20000 in
theorem gL_byteAt_X7_byteAt : GoodIn wsL_byteAt (wsV RL 97 RX7 yX7_byteAt wsX7_byteAt) := goodIn_app (goodIn_of _ (by decide +kernel)) ggL_byteAt_X7_byteAt
theorem dL_byteAt_0 : decode cL_byteAt 0 = .ok (.aload_n 2, 1) := by decide +kernel
theorem dL_byteAt_1 : decode cL_byteAt 1 = .ok (.iconst 0, 1) := by decide +kernel
theorem dL_byteAt_2 : decode cL_byteAt 2 = .ok (.aload_n 0, 1) := by decide +kernel
theorem dL_byteAt_3 : decode cL_byteAt 3 = .ok (.iload_n 1, 1) := by decide +kernel
theorem dL_byteAt_4 : decode cL_byteAt 4 = .ok (.invokevirtual 97, 3) := by decide +kernel
theorem dL_byteAt_7 : decode cL_byteAt 7 = .ok (.i2l, 1) := by decide +kernel
theorem dL_byteAt_8 : decode cL_byteAt 8 = .ok (.lastore, 1) := by decide +kernel
theorem dL_byteAt_9 : decode cL_byteAt 9 = .ok (.goto 6, 3) := by decide +kernel
theorem dL_byteAt_12 : decode cL_byteAt 12 = .ok (.astore_n 3, 1) := by decide +kernel
theorem dL_byteAt_13 : decode cL_byteAt 13 = .ok (.iconst 1, 1) := by decide +kernel
theorem dL_byteAt_14 : decode cL_byteAt 14 = .ok (.ireturn, 1) := by decide +kernel
theorem dL_byteAt_15 : decode cL_byteAt 15 = .ok (.iconst 0, 1) := by decide +kernel
theorem dL_byteAt_16 : decode cL_byteAt 16 = .ok (.ireturn, 1) := by decide +kernel
set_option maxRecDepth 20000 in
theorem ggL_decodedSymbol_X7_decodedSymbol : GoodIn wsL_decodedSymbol wsX7_decodedSymbol := goodIn_ca (goodIn_r _ [6, 7, 8, 9, 10, 5, 11, 12, 13, 14, 15, 16, 17, 18, 19, 20, 21, 22, 23, 24, 25, 26, 27] (by decide +kernel) (by decide +kernel)) (goodIn_sub (fun _ h => List.mem_cons_of_mem _ (List.mem_append_right _ h)) (by decide +kernel))
set_option maxRecDepth 20000 in
theorem gL_decodedSymbol_X7_decodedSymbol : GoodIn wsL_decodedSymbol (wsV RL 100 RX7 yX7_decodedSymbol wsX7_decodedSymbol) := goodIn_app (goodIn_of _ (by decide +kernel)) ggL_decodedSymbol_X7_decodedSymbol
theorem dL_decodedSymbol_0 : decode cL_decodedSymbol 0 = .ok (.aload_n 2, 1) := by decide +kernel
theorem dL_decodedSymbol_1 : decode cL_decodedSymbol 1 = .ok (.iconst 0, 1) := by decide +kernel
theorem dL_decodedSymbol_2 : decode cL_decodedSymbol 2 = .ok (.aload_n 0, 1) := by decide +kernel
theorem dL_decodedSymbol_3 : decode cL_decodedSymbol 3 = .ok (.iload_n 1, 1) := by decide +kernel
theorem dL_decodedSymbol_4 : decode cL_decodedSymbol 4 = .ok (.invokevirtual 100, 3) := by decide +kernel
theorem dL_decodedSymbol_7 : decode cL_decodedSymbol 7 = .ok (.i2l, 1) := by decide +kernel
theorem dL_decodedSymbol_8 : decode cL_decodedSymbol 8 = .ok (.lastore, 1) := by decide +kernel
theorem dL_decodedSymbol_9 : decode cL_decodedSymbol 9 = .ok (.goto 6, 3) := by decide +kernel
theorem dL_decodedSymbol_12 : decode cL_decodedSymbol 12 = .ok (.astore_n 3, 1) := by decide +kernel
theorem dL_decodedSymbol_13 : decode cL_decodedSymbol 13 = .ok (.iconst 1, 1) := by decide +kernel
theorem dL_decodedSymbol_14 : decode cL_decodedSymbol 14 = .ok (.ireturn, 1) := by decide +kernel
theorem dL_decodedSymbol_15 : decode cL_decodedSymbol 15 = .ok (.iconst 0, 1) := by decide +kernel
theorem dL_decodedSymbol_16 : decode cL_decodedSymbol 16 = .ok (.ireturn, 1) := by decide +kernel
set_option maxRecDepth 20000 in
theorem ggL_setupByte_X7_setupByte : GoodIn wsL_setupByte wsX7_setupByte := goodIn_ca (goodIn_r _ [6, 7, 8, 9, 10, 11, 12, 13, 14, 15, 16, 17, 18, 19, 20, 21, 22, 23, 24, 25, 26, 27, 28, 29, 30, 31, 32, 33, 34, 35, 36, 37, 38, 39, 40, 41, 42, 43, 44, 45, 46, 47, 48, 49, 50, 51, 52, 53, 54, 55, 56, 57, 58, 59, 60, 61, 62, 63, 64, 65, 66, 67, 68, 69, 70, 71, 72, 73, 5, 74, 75, 76, 77, 78, 79, 80, 81, 82, 83, 84, 85, 86, 87, 88, 89, 90, 91, 92, 93, 94, 95, 96, 97, 98, 99, 100, 101, 102, 103, 104, 105, 106, 107, 108, 109, 110, 111, 112, 113, 114, 115, 116, 117, 118, 119, 120, 121, 122, 123, 124, 125, 126, 127] (by decide +kernel) (by decide +kernel)) (goodIn_sub (fun _ h => List.mem_cons_of_mem _ (List.mem_append_right _ h)) (by decide +kernel))
set_option maxRecDepth 20000 in
theorem gL_setupByte_X7_setupByte : GoodIn wsL_setupByte (wsV RL 103 RX7 yX7_setupByte wsX7_setupByte) := goodIn_app (goodIn_of _ (by decide +kernel)) ggL_setupByte_X7_setupByte
theorem dL_setupByte_0 : decode cL_setupByte 0 = .ok (.aload_n 2, 1) := by decide +kernel
theorem dL_setupByte_1 : decode cL_setupByte 1 = .ok (.iconst 0, 1) := by decide +kernel
theorem dL_setupByte_2 : decode cL_setupByte 2 = .ok (.aload_n 0, 1) := by decide +kernel
theorem dL_setupByte_3 : decode cL_setupByte 3 = .ok (.iload_n 1, 1) := by decide +kernel
theorem dL_setupByte_4 : decode cL_setupByte 4 = .ok (.invokevirtual 103, 3) := by decide +kernel
theorem dL_setupByte_7 : decode cL_setupByte 7 = .ok (.i2l, 1) := by decide +kernel
theorem dL_setupByte_8 : decode cL_setupByte 8 = .ok (.lastore, 1) := by decide +kernel
theorem dL_setupByte_9 : decode cL_setupByte 9 = .ok (.goto 6, 3) := by decide +kernel
theorem dL_setupByte_12 : decode cL_setupByte 12 = .ok (.astore_n 3, 1) := by decide +kernel
theorem dL_setupByte_13 : decode cL_setupByte 13 = .ok (.iconst 1, 1) := by decide +kernel
theorem dL_setupByte_14 : decode cL_setupByte 14 = .ok (.ireturn, 1) := by decide +kernel
theorem dL_setupByte_15 : decode cL_setupByte 15 = .ok (.iconst 0, 1) := by decide +kernel
theorem dL_setupByte_16 : decode cL_setupByte 16 = .ok (.ireturn, 1) := by decide +kernel
set_option maxRecDepth 20000 in
theorem ggL_law_X7_init : GoodIn wsL_law wsX7_init := goodIn_r _ [9, 10, 11, 12, 13, 14, 15, 16, 17, 18, 19, 20, 21, 22, 23, 24, 25, 26, 27, 28, 29, 30, 31, 32, 33, 34, 35, 36, 37, 38, 39, 40, 41, 42, 43, 44, 45, 46, 47, 48, 49, 50, 51, 52, 53, 54, 55, 56, 57, 58, 59, 60, 61, 62, 63, 64, 65, 66, 67, 68, 69, 70, 71, 72, 73, 74, 75, 76, 77, 78, 79, 80, 81, 82, 83, 84, 85, 86, 87, 88, 89, 90, 91, 92, 93, 94, 95, 96, 97, 98, 99, 100, 101, 102, 103, 104, 105, 106, 107, 108, 109, 110, 111, 112, 113, 114, 115, 116, 117, 118, 119, 120, 121, 122, 1475, 1476, 1477, 1478, 1479, 1480, 1481, 1482, 1483, 1484, 1485, 1513, 1514, 1515, 1516, 1517, 1518, 1519, 1520, 1521, 1522, 1523, 1524, 1525, 1526, 1527, 1528, 1529, 1530, 1531, 1532, 1533, 1534, 1535, 1536, 1537, 1538, 1539, 1540, 1541, 1542, 1543, 1544, 1545, 1546, 1547, 1548, 1549, 1550, 1551, 1552, 1553, 1554, 1555] (by decide +kernel) (by decide +kernel)
set_option maxRecDepth 20000 in
theorem gL_law_X7_init : GoodIn wsL_law (wsX7_init) := ggL_law_X7_init
set_option maxRecDepth 20000 in
theorem ggL_law_X8_init : GoodIn wsL_law wsX8_init := goodIn_r _ [125, 126, 11, 12, 127, 128, 129, 13, 130, 131, 132, 133, 134, 135, 136, 137, 138, 139, 140, 1486, 1487, 1488, 1489, 1490, 1491, 1492, 1493, 1494, 1495, 1496, 1497, 1498, 1499, 1500, 1501, 1502, 1503, 1504, 1505, 1506, 1507, 1508, 1509, 1510, 1511, 1512] (by decide +kernel) (by decide +kernel)
set_option maxRecDepth 20000 in
theorem gL_law_X8_init : GoodIn wsL_law (wsX8_init) := ggL_law_X8_init
set_option maxRecDepth 20000 in
theorem ggL_law_L_append : GoodIn wsL_law wsL_append := goodIn_ca (goodIn_r _ [144, 145, 146, 147, 148, 2, 149, 150, 151, 152, 153, 154, 155, 156, 14, 157, 158, 159, 1475, 1476, 1477, 1478, 1479, 1480, 1481, 1482, 1483, 1484, 1485] (by decide +kernel) (by decide +kernel)) (goodIn_sub (fun _ h => List.mem_append_left _ (List.mem_append_left _ (List.mem_append_left _ (List.mem_append_right _ h)))) (by decide +kernel))
set_option maxRecDepth 20000 in
theorem gL_law_L_append : GoodIn wsL_law (va_wsS RL 110 yL_append wsL_append) := goodIn_app (goodIn_of _ (by decide +kernel)) ggL_law_L_append
set_option maxRecDepth 20000 in
theorem ggL_law_X8_append : GoodIn wsL_law wsX8_append := goodIn_r _ [163, 164, 165, 166, 167, 5, 168, 169, 170, 171, 172, 173, 128, 174, 175, 176, 177, 1486, 1487, 1488, 1489, 1490, 1491, 1492, 1493, 1494, 1495, 1496, 1497, 1498, 1499, 1500, 1501, 1502, 1503, 1504, 1505, 1506, 1507, 1508, 1509, 1510, 1511, 1512] (by decide +kernel) (by decide +kernel)
set_option maxRecDepth 20000 in
theorem gL_law_X8_append : GoodIn wsL_law (wsV RL 115 RX8 yX8_append wsX8_append) := goodIn_app (goodIn_of _ (by decide +kernel)) ggL_law_X8_append
set_option maxRecDepth 20000 in
theorem ggL_law_X8_thrown : GoodIn wsL_law wsX8_thrown := goodIn_r _ [181, 169, 1486, 1487, 1488, 1489, 1490, 1491, 1492, 1493, 1494, 1495, 1496, 1497, 1498, 1499, 1500, 1501, 1502, 1503, 1504, 1505, 1506, 1507, 1508, 1509, 1510, 1511, 1512] (by decide +kernel) (by decide +kernel)
set_option maxRecDepth 20000 in
theorem gL_law_X8_thrown : GoodIn wsL_law (wsV RL 116 RX8 yX8_thrown wsX8_thrown) := goodIn_app (goodIn_of _ (by decide +kernel)) ggL_law_X8_thrown
set_option maxRecDepth 20000 in
theorem ggL_law_L_truncate : GoodIn wsL_law wsL_truncate := goodIn_ca (goodIn_r _ [184, 185, 186, 187, 188, 2, 189, 190, 191, 152, 1475, 1476, 1477, 1478, 1479, 1480, 1481, 1482, 1483, 1484, 1485] (by decide +kernel) (by decide +kernel)) (goodIn_sub (fun _ h => List.mem_append_left _ (List.mem_append_left _ (List.mem_append_right _ h))) (by decide +kernel))
set_option maxRecDepth 20000 in
theorem gL_law_L_truncate : GoodIn wsL_law (va_wsS RL 119 yL_truncate wsL_truncate) := goodIn_app (goodIn_of _ (by decide +kernel)) ggL_law_L_truncate
set_option maxRecDepth 20000 in
theorem ggL_law_X8_truncate : GoodIn wsL_law wsX8_truncate := goodIn_r _ [195, 164, 196, 197, 5, 198, 165, 166, 167, 168, 169, 174, 175, 176, 177, 1486, 1487, 1488, 1489, 1490, 1491, 1492, 1493, 1494, 1495, 1496, 1497, 1498, 1499, 1500, 1501, 1502, 1503, 1504, 1505, 1506, 1507, 1508, 1509, 1510, 1511, 1512] (by decide +kernel) (by decide +kernel)
set_option maxRecDepth 20000 in
theorem gL_law_X8_truncate : GoodIn wsL_law (wsV RL 122 RX8 yX8_truncate wsX8_truncate) := goodIn_app (goodIn_of _ (by decide +kernel)) ggL_law_X8_truncate
set_option maxRecDepth 20000 in
theorem ggL_law_L_load : GoodIn wsL_law wsL_load := goodIn_ca (goodIn_r _ [201, 185, 202, 203, 204, 2, 205, 190, 191, 31, 14, 152, 35, 40, 18, 22, 206, 207, 208, 209, 30, 210, 76, 211, 77, 212, 213, 214, 215, 216, 34, 217, 218, 219, 220, 221, 222, 223, 224, 225, 226, 227, 228, 229, 230, 231, 232, 233, 234, 235, 236, 237, 238, 239, 240, 241, 242, 243, 244, 245, 246, 247, 248, 249, 250, 251, 252, 253, 254, 255, 256, 257, 258, 259, 260, 261, 262, 263, 264, 265, 266, 267, 268, 269, 270, 271, 272, 273, 274, 275, 276, 277, 278, 279, 280, 281, 282, 283, 284, 285, 286, 287, 288, 289, 290, 291, 292, 293, 294, 295, 296, 297, 298, 299, 300, 301, 302, 303, 304, 305, 306, 307, 308, 309, 310, 311, 312, 313, 314, 315, 316, 317, 318, 319, 320, 321, 322, 323, 324, 325, 326, 327, 328, 329, 330, 331, 332, 81, 158, 159, 86, 87, 88, 17, 89, 47, 90, 91, 92, 93, 94, 46, 95, 96, 97, 98, 99, 100, 101, 102, 103, 104, 105, 106, 55, 56, 57, 58, 107, 108, 109, 110, 48, 111, 112, 113, 114, 115, 116, 117, 118, 119, 120, 121, 122, 333, 334, 335, 336, 337, 49, 338, 339, 340, 341, 342, 343, 344, 345, 59, 346, 347, 348, 349, 350, 351, 352, 353, 354, 355, 356, 357, 358, 359, 360, 361, 362, 363, 364, 365, 366, 367, 368, 369, 370, 371, 372, 373, 374, 375, 376, 377, 378, 379, 380, 381, 382, 383, 384, 385, 386, 387, 50, 51, 388, 389, 390, 391, 392, 393, 394, 395, 396, 397, 398, 399, 21, 400, 401, 402, 1475, 1476, 1477, 1478, 1479, 1480, 1481, 1482, 1483, 1484, 1485, 1535, 1536, 1537, 1538, 1539, 1540, 1541, 1542, 1543, 1544, 1545, 1513, 1514, 1515, 1516, 1517, 1518, 1519, 1520, 1521, 1522, 1523, 1524, 1525, 1526, 1548, 1549, 1550, 1551, 1552, 1553, 1554, 1555, 1527, 1528, 1529, 1530] (by decide +kernel) (by decide +kernel)) (goodIn_sub (fun _ h => List.mem_append_left _ (List.mem_append_left _ (List.mem_append_right _ h))) (by decide +kernel))
set_option maxRecDepth 20000 in
theorem gL_law_L_load : GoodIn wsL_law (va_wsS RL 123 yL_load wsL_load) := goodIn_app (goodIn_of _ (by decide +kernel)) ggL_law_L_load
set_option maxRecDepth 20000 in
theorem ggL_law_X8_load : GoodIn wsL_law wsX8_load := goodIn_r _ [406, 130, 407, 408, 164, 409, 135, 410, 411, 412, 413, 5, 414, 131, 415, 416, 417, 418, 419, 129, 420, 421, 422, 423, 128, 424, 425, 426, 427, 428, 429, 430, 431, 432, 433, 434, 435, 436, 437, 438, 439, 440, 441, 442, 443, 444, 445, 446, 447, 448, 449, 450, 451, 452, 453, 454, 455, 456, 457, 458, 196, 197, 198, 459, 460, 461, 462, 463, 464, 465, 466, 467, 468, 469, 470, 471, 472, 473, 474, 475, 476, 477, 478, 479, 480, 481, 482, 483, 484, 485, 486, 487, 488, 489, 490, 491, 492, 493, 494, 495, 496, 497, 498, 499, 500, 501, 502, 503, 504, 505, 506, 507, 508, 509, 510, 511, 512, 513, 514, 515, 516, 517, 518, 519, 520, 521, 522, 523, 524, 525, 526, 527, 528, 529, 530, 531, 532, 533, 534, 535, 536, 537, 538, 539, 540, 541, 542, 543, 544, 545, 546, 547, 548, 549, 550, 551, 552, 553, 554, 555, 556, 557, 558, 559, 560, 561, 562, 563, 564, 565, 566, 567, 568, 569, 570, 571, 572, 573, 574, 575, 576, 577, 578, 579, 580, 581, 582, 583, 584, 585, 586, 587, 588, 589, 590, 591, 592, 593, 594, 595, 596, 597, 598, 599, 600, 165, 166, 167, 168, 169, 174, 175, 176, 177, 1486, 1487, 1488, 1489, 1490, 1491, 1492, 1493, 1494, 1495, 1496, 1497, 1498, 1499, 1500, 1501, 1502, 1503, 1504, 1505, 1506, 1507, 1508, 1509, 1510, 1511, 1512] (by decide +kernel) (by decide +kernel)
set_option maxRecDepth 20000 in
theorem gL_law_X8_load : GoodIn wsL_law (wsV RL 126 RX8 yX8_load wsX8_load) := goodIn_app (goodIn_of _ (by decide +kernel)) ggL_law_X8_load
set_option maxRecDepth 20000 in
theorem ggL_law_L_decode : GoodIn wsL_law wsL_decode := goodIn_ca (goodIn_r _ [603, 185, 604, 605, 606, 2, 607, 190, 191, 31, 14, 152, 27, 18, 40, 23, 206, 207, 208, 209, 30, 210, 76, 211, 77, 212, 213, 608, 609, 610, 26, 611, 70, 71, 612, 613, 93, 94, 46, 95, 96, 97, 98, 99, 100, 101, 102, 103, 104, 105, 106, 55, 56, 57, 58, 614, 615, 616, 617, 618, 226, 227, 228, 229, 230, 231, 232, 233, 234, 235, 236, 237, 238, 239, 240, 241, 242, 243, 244, 245, 246, 247, 619, 306, 307, 308, 620, 621, 622, 623, 624, 625, 626, 627, 628, 629, 630, 631, 632, 72, 633, 365, 366, 367, 634, 635, 636, 637, 396, 638, 639, 640, 641, 642, 343, 344, 345, 59, 643, 351, 352, 353, 354, 355, 356, 357, 644, 393, 394, 395, 158, 159, 645, 646, 647, 648, 649, 650, 651, 652, 653, 654, 655, 656, 657, 658, 659, 1475, 1476, 1477, 1478, 1479, 1480, 1481, 1482, 1483, 1484, 1485, 1513, 1514, 1515, 1516, 1517, 1518, 1519, 1520, 1521, 1522, 1523, 1524, 1525, 1526, 1535, 1536, 1537, 1538, 1539, 1531, 1532, 1533, 1534, 1548, 1549, 1550, 1551, 1552, 1553, 1554, 1555] (by decide +kernel) (by decide +kernel)) (goodIn_sub (fun _ h => List.mem_append_left _ (List.mem_append_left _ (List.mem_append_right _ h))) (by decide +kernel))
set_option maxRecDepth 20000 in
theorem gL_law_L_decode : GoodIn wsL_law (va_wsS RL 127 yL_decode wsL_decode) := goodIn_app (goodIn_of _ (by decide +kernel)) ggL_law_L_decode
set_option maxRecDepth 20000 in
theorem ggL_law_X8_decode : GoodIn wsL_law wsX8_decode := goodIn_r _ [663, 407, 408, 441, 164, 410, 415, 416, 417, 5, 418, 419, 129, 420, 421, 422, 423, 128, 424, 425, 426, 427, 428, 429, 430, 431, 432, 433, 434, 435, 436, 437, 438, 439, 440, 664, 665, 666, 667, 130, 668, 669, 670, 671, 672, 673, 674, 522, 523, 524, 525, 675, 676, 677, 678, 196, 197, 198, 679, 680, 681, 682, 683, 684, 685, 686, 553, 554, 555, 556, 687, 688, 689, 690, 691, 692, 693, 694, 136, 541, 542, 543, 544, 695, 696, 697, 698, 699, 700, 701, 702, 703, 704, 705, 706, 137, 707, 708, 709, 710, 711, 712, 713, 714, 138, 451, 452, 453, 454, 165, 166, 167, 168, 169, 715, 716, 717, 718, 139, 174, 175, 176, 177, 1486, 1487, 1488, 1489, 1490, 1491, 1492, 1493, 1494, 1495, 1496, 1497, 1498, 1499, 1500, 1501, 1502, 1503, 1504, 1505, 1506, 1507, 1508, 1509, 1510, 1511, 1512] (by decide +kernel) (by decide +kernel)
set_option maxRecDepth 20000 in
theorem gL_law_X8_decode : GoodIn wsL_law (wsV RL 129 RX8 yX8_decode wsX8_decode) := goodIn_app (goodIn_of _ (by decide +kernel)) ggL_law_X8_decode
set_option maxRecDepth 20000 in
theorem ggL_law_X7_errorPosition : GoodIn wsL_law wsX7_errorPosition := goodIn_r _ [722, 40, 1475, 1476, 1477, 1478, 1479, 1480, 1481, 1482, 1483, 1484, 1485] (by decide +kernel) (by decide +kernel)
set_option maxRecDepth 20000 in
theorem gL_law_X7_errorPosition : GoodIn wsL_law (wsV RL 130 RX7 yX7_errorPosition wsX7_errorPosition) := goodIn_app (goodIn_of _ (by decide +kernel)) ggL_law_X7_errorPosition
set_option maxRecDepth 20000 in
theorem ggL_law_X8_errorPosition : GoodIn wsL_law wsX8_errorPosition := goodIn_r _ [726, 129, 174, 175, 176, 5, 177, 169, 1486, 1487, 1488, 1489, 1490, 1491, 1492, 1493, 1494, 1495, 1496, 1497, 1498, 1499, 1500, 1501, 1502, 1503, 1504, 1505, 1506, 1507, 1508, 1509, 1510, 1511, 1512] (by decide +kernel) (by decide +kernel)
set_option maxRecDepth 20000 in
theorem gL_law_X8_errorPosition : GoodIn wsL_law (wsV RL 133 RX8 yX8_errorPosition wsX8_errorPosition) := goodIn_app (goodIn_of _ (by decide +kernel)) ggL_law_X8_errorPosition
set_option maxRecDepth 20000 in
theorem ggL_law_L_encode : GoodIn wsL_law wsL_encode := goodIn_ca (goodIn_ca (goodIn_r _ [729, 185, 145, 730, 731, 732, 2, 733, 150, 151, 18, 22, 734, 735, 736, 737, 190, 191, 738, 739, 740, 741, 742, 743, 744, 21, 745, 746, 402, 747, 653, 654, 655, 748, 749, 750, 751, 752, 753, 754, 755, 65, 756, 757, 758, 17, 759, 47, 90, 91, 48, 111, 49, 112, 50, 51, 113, 114, 120, 121, 122, 760, 761, 762, 46, 763, 96, 97, 102, 55, 56, 57, 58, 59, 650, 651, 652, 656, 657, 658, 659, 334, 335, 336, 337, 338, 339, 340, 341, 342, 343, 344, 345, 229, 230, 346, 347, 348, 349, 350, 351, 352, 353, 354, 355, 356, 357, 358, 359, 360, 361, 362, 363, 364, 365, 366, 367, 368, 369, 370, 371, 372, 373, 374, 375, 376, 377, 378, 379, 380, 381, 382, 383, 384, 385, 386, 387, 158, 159, 388, 389, 390, 391, 116, 117, 118, 119, 115, 99, 100, 101, 103, 104, 105, 106, 392, 393, 394, 395, 396, 1475, 1476, 1477, 1478, 1479, 1480, 1481, 1482, 1483, 1484, 1485, 1513, 1514, 1515, 1516, 1517, 1518, 1519, 1520, 1521, 1522, 1523, 1524, 1525, 1526, 1548, 1549, 1550, 1551, 1552, 1553, 1554, 1555, 1527, 1528, 1529, 1530] (by decide +kernel) (by decide +kernel)) (goodIn_sub (fun _ h => List.mem_append_left _ (List.mem_append_left _ (List.mem_append_left _ (List.mem_append_right _ h)))) (by decide +kernel))) (goodIn_sub (fun _ h => List.mem_append_left _ (List.mem_append_left _ (List.mem_append_right _ h))) (by decide +kernel))
set_option maxRecDepth 20000 in
theorem gL_law_L_encode : GoodIn wsL_law (va_wsS RL 134 yL_encode wsL_encode) := goodIn_app (goodIn_of _ (by decide +kernel)) ggL_law_L_encode
set_option maxRecDepth 20000 in
theorem ggL_law_X8_encode : GoodIn wsL_law wsX8_encode := goodIn_r _ [767, 130, 506, 507, 508, 5, 509, 196, 197, 198, 165, 166, 167, 168, 169, 411, 412, 413, 414, 131, 514, 515, 516, 517, 518, 519, 520, 521, 522, 523, 524, 525, 526, 527, 528, 529, 530, 531, 532, 533, 534, 535, 536, 537, 538, 539, 540, 541, 542, 543, 544, 545, 546, 547, 548, 549, 550, 551, 552, 553, 554, 555, 556, 557, 558, 559, 560, 561, 562, 563, 564, 565, 566, 567, 568, 569, 570, 571, 572, 573, 574, 575, 576, 577, 578, 579, 580, 581, 582, 583, 584, 585, 586, 587, 588, 589, 590, 591, 592, 485, 486, 487, 488, 593, 594, 595, 596, 768, 769, 770, 771, 409, 132, 174, 175, 176, 177, 1486, 1487, 1488, 1489, 1490, 1491, 1492, 1493, 1494, 1495, 1496, 1497, 1498, 1499, 1500, 1501, 1502, 1503, 1504, 1505, 1506, 1507, 1508, 1509, 1510, 1511, 1512] (by decide +kernel) (by decide +kernel)
set_option maxRecDepth 20000 in
theorem gL_law_X8_encode : GoodIn wsL_law (wsV RL 136 RX8 yX8_encode wsX8_encode) := goodIn_app (goodIn_of _ (by decide +kernel)) ggL_law_X8_encode
set_option maxRecDepth 20000 in
theorem ggL_law_L_encodeTape : GoodIn wsL_law wsL_encodeTape := goodIn_ca (goodIn_ca (goodIn_r _ [774, 185, 145, 775, 776, 777, 2, 778, 190, 191, 150, 151, 152, 14, 18, 22, 333, 229, 230, 738, 739, 740, 741, 742, 743, 744, 21, 745, 746, 402, 747, 653, 654, 655, 748, 749, 750, 751, 752, 753, 754, 755, 65, 756, 757, 758, 17, 759, 47, 90, 91, 48, 111, 49, 112, 50, 51, 113, 114, 120, 121, 122, 760, 761, 762, 46, 763, 96, 97, 102, 55, 56, 57, 58, 59, 650, 651, 652, 656, 657, 658, 659, 334, 335, 336, 337, 338, 339, 340, 341, 342, 343, 344, 345, 346, 347, 348, 349, 350, 351, 352, 353, 354, 355, 356, 357, 358, 359, 360, 361, 362, 363, 364, 365, 366, 367, 368, 369, 370, 371, 372, 373, 374, 375, 376, 377, 378, 379, 380, 381, 382, 383, 384, 385, 386, 387, 158, 159, 388, 389, 390, 391, 116, 117, 118, 119, 115, 99, 100, 101, 103, 104, 105, 106, 392, 393, 394, 395, 396, 1475, 1476, 1477, 1478, 1479, 1480, 1481, 1482, 1483, 1484, 1485, 1513, 1514, 1515, 1516, 1517, 1518, 1519, 1520, 1521, 1522, 1523, 1524, 1525, 1526, 1548, 1549, 1550, 1551, 1552, 1553, 1554, 1555, 1527, 1528, 1529, 1530] (by decide +kernel) (by decide +kernel)) (goodIn_sub (fun _ h => List.mem_append_left _ (List.mem_append_left _ (List.mem_append_right _ h))) (by decide +kernel))) (goodIn_sub (fun _ h => List.mem_append_left _ (List.mem_append_left _ (List.mem_append_left _ (List.mem_append_right _ h)))) (by decide +kernel))
set_option maxRecDepth 20000 in
theorem gL_law_L_encodeTape : GoodIn wsL_law (va_wsS RL 137 yL_encodeTape wsL_encodeTape) := goodIn_app (goodIn_of _ (by decide +kernel)) ggL_law_L_encodeTape
set_option maxRecDepth 20000 in
theorem ggL_law_X8_encodeTape : GoodIn wsL_law wsX8_encodeTape := goodIn_r _ [782, 164, 130, 498, 499, 500, 5, 501, 128, 502, 503, 504, 505, 506, 507, 508, 509, 196, 197, 198, 165, 166, 167, 168, 169, 411, 412, 413, 414, 131, 510, 511, 512, 513, 514, 515, 516, 517, 518, 519, 520, 521, 522, 523, 524, 525, 526, 527, 528, 529, 530, 531, 532, 533, 534, 535, 536, 537, 538, 539, 540, 541, 542, 543, 544, 545, 546, 547, 548, 549, 550, 551, 552, 553, 554, 555, 556, 557, 558, 559, 560, 561, 562, 563, 564, 565, 566, 567, 568, 569, 570, 571, 572, 573, 574, 575, 576, 577, 578, 579, 580, 581, 582, 583, 584, 585, 586, 587, 588, 589, 590, 591, 592, 485, 486, 487, 488, 593, 594, 595, 596, 768, 769, 770, 771, 409, 132, 174, 175, 176, 177, 1486, 1487, 1488, 1489, 1490, 1491, 1492, 1493, 1494, 1495, 1496, 1497, 1498, 1499, 1500, 1501, 1502, 1503, 1504, 1505, 1506, 1507, 1508, 1509, 1510, 1511, 1512] (by decide +kernel) (by decide +kernel)
set_option maxRecDepth 20000 in
theorem gL_law_X8_encodeTape : GoodIn wsL_law (wsV RL 139 RX8 yX8_encodeTape wsX8_encodeTape) := goodIn_app (goodIn_of _ (by decide +kernel)) ggL_law_X8_encodeTape
set_option maxRecDepth 20000 in
theorem ggL_law_X7_flush : GoodIn wsL_law wsX7_flush := goodIn_r _ [786, 22, 18, 742, 743, 744, 21, 745, 746, 402, 747, 653, 654, 655, 748, 749, 750, 751, 752, 753, 754, 755, 65, 756, 757, 758, 17, 759, 47, 90, 91, 48, 111, 49, 112, 50, 51, 113, 114, 120, 121, 122, 760, 761, 762, 46, 763, 96, 97, 102, 55, 56, 57, 58, 59, 650, 2, 651, 652, 656, 657, 658, 659, 787, 788, 789, 790, 380, 381, 382, 383, 364, 365, 366, 367, 229, 230, 358, 359, 360, 361, 362, 363, 384, 385, 386, 387, 158, 159, 388, 389, 390, 391, 116, 117, 118, 119, 115, 99, 100, 101, 103, 104, 105, 106, 1475, 1476, 1477, 1478, 1479, 1480, 1481, 1482, 1483, 1484, 1485, 1527, 1528, 1529, 1530, 1513, 1514, 1515, 1516, 1517, 1518, 1519, 1520, 1521, 1522, 1523, 1524, 1525, 1526, 1548, 1549, 1550, 1551, 1552, 1553, 1554, 1555] (by decide +kernel) (by decide +kernel)
set_option maxRecDepth 20000 in
theorem gL_law_X7_flush : GoodIn wsL_law (wsV RL 140 RX7 yX7_flush wsX7_flush) := goodIn_app (goodIn_of _ (by decide +kernel)) ggL_law_X7_flush
set_option maxRecDepth 20000 in
theorem ggL_law_X8_flush : GoodIn wsL_law wsX8_flush := goodIn_r _ [794, 130, 411, 412, 413, 5, 414, 131, 795, 796, 797, 798, 530, 531, 532, 533, 534, 535, 536, 537, 538, 539, 540, 522, 523, 524, 525, 541, 542, 543, 544, 589, 590, 591, 592, 485, 486, 487, 488, 768, 769, 770, 771, 409, 132, 174, 175, 176, 177, 169, 1486, 1487, 1488, 1489, 1490, 1491, 1492, 1493, 1494, 1495, 1496, 1497, 1498, 1499, 1500, 1501, 1502, 1503, 1504, 1505, 1506, 1507, 1508, 1509, 1510, 1511, 1512] (by decide +kernel) (by decide +kernel)
set_option maxRecDepth 20000 in
theorem gL_law_X8_flush : GoodIn wsL_law (wsV RL 143 RX8 yX8_flush wsX8_flush) := goodIn_app (goodIn_of _ (by decide +kernel)) ggL_law_X8_flush
set_option maxRecDepth 20000 in
theorem ggL_law_X7_restart : GoodIn wsL_law wsX7_restart := goodIn_r _ [802, 22, 18, 742, 743, 744, 21, 745, 746, 402, 747, 653, 654, 655, 748, 749, 750, 751, 752, 753, 754, 755, 65, 756, 757, 758, 17, 759, 47, 90, 91, 48, 111, 49, 112, 50, 51, 113, 114, 120, 121, 122, 760, 761, 762, 46, 763, 96, 97, 102, 55, 56, 57, 58, 59, 650, 2, 651, 652, 656, 657, 658, 659, 803, 108, 109, 110, 115, 99, 100, 101, 103, 104, 105, 106, 116, 117, 118, 119, 1475, 1476, 1477, 1478, 1479, 1480, 1481, 1482, 1483, 1484, 1485, 1513, 1514, 1515, 1516, 1517, 1518, 1519, 1520, 1521, 1522, 1523, 1524, 1525, 1526, 1527, 1528, 1529, 1530, 1548, 1549, 1550, 1551, 1552, 1553, 1554, 1555] (by decide +kernel) (by decide +kernel)
set_option maxRecDepth 20000 in
theorem gL_law_X7_restart : GoodIn wsL_law (wsV RL 144 RX7 yX7_restart wsX7_restart) := goodIn_app (goodIn_of _ (by decide +kernel)) ggL_law_X7_restart
set_option maxRecDepth 20000 in
theorem ggL_law_X8_restart : GoodIn wsL_law wsX8_restart := goodIn_r _ [807, 130, 411, 412, 413, 5, 414, 131, 481, 482, 483, 484, 485, 486, 487, 488, 768, 769, 770, 771, 409, 132, 174, 175, 176, 177, 169, 1486, 1487, 1488, 1489, 1490, 1491, 1492, 1493, 1494, 1495, 1496, 1497, 1498, 1499, 1500, 1501, 1502, 1503, 1504, 1505, 1506, 1507, 1508, 1509, 1510, 1511, 1512] (by decide +kernel) (by decide +kernel)
set_option maxRecDepth 20000 in
theorem gL_law_X8_restart : GoodIn wsL_law (wsV RL 147 RX8 yX8_restart wsX8_restart) := goodIn_app (goodIn_of _ (by decide +kernel)) ggL_law_X8_restart
set_option maxRecDepth 20000 in
theorem ggL_law_L_setPolicy : GoodIn wsL_law wsL_setPolicy := goodIn_ca (goodIn_r _ [810, 185, 811, 812, 813, 2, 814, 190, 191, 22, 18, 742, 743, 744, 21, 745, 746, 402, 747, 653, 654, 655, 748, 749, 750, 751, 752, 753, 754, 755, 65, 756, 757, 758, 17, 759, 47, 90, 91, 48, 111, 49, 112, 50, 51, 113, 114, 120, 121, 122, 760, 761, 762, 46, 763, 96, 97, 102, 55, 56, 57, 58, 59, 650, 651, 652, 656, 657, 658, 659, 1475, 1476, 1477, 1478, 1479, 1480, 1481, 1482, 1483, 1484, 1485, 1513, 1514, 1515, 1516, 1517, 1518, 1519, 1520, 1521, 1522, 1523, 1524, 1525, 1526, 1527, 1528, 1529, 1530, 1548, 1549, 1550, 1551, 1552, 1553, 1554, 1555] (by decide +kernel) (by decide +kernel)) (goodIn_sub (fun _ h => List.mem_append_left _ (List.mem_append_left _ (List.mem_append_right _ h))) (by decide +kernel))
set_option maxRecDepth 20000 in
theorem gL_law_L_setPolicy : GoodIn wsL_law (va_wsS RL 148 yL_setPolicy wsL_setPolicy) := goodIn_app (goodIn_of _ (by decide +kernel)) ggL_law_L_setPolicy
set_option maxRecDepth 20000 in
theorem ggL_law_X8_setPolicy : GoodIn wsL_law wsX8_setPolicy := goodIn_r _ [818, 130, 196, 197, 5, 198, 165, 166, 167, 168, 169, 411, 412, 413, 414, 131, 768, 769, 770, 771, 409, 132, 174, 175, 176, 177, 1486, 1487, 1488, 1489, 1490, 1491, 1492, 1493, 1494, 1495, 1496, 1497, 1498, 1499, 1500, 1501, 1502, 1503, 1504, 1505, 1506, 1507, 1508, 1509, 1510, 1511, 1512] (by decide +kernel) (by decide +kernel)
set_option maxRecDepth 20000 in
theorem gL_law_X8_setPolicy : GoodIn wsL_law (wsV RL 150 RX8 yX8_setPolicy wsX8_setPolicy) := goodIn_app (goodIn_of _ (by decide +kernel)) ggL_law_X8_setPolicy
set_option maxRecDepth 20000 in
theorem ggL_law_L_setLimit : GoodIn wsL_law wsL_setLimit := goodIn_ca (goodIn_r _ [821, 185, 822, 823, 824, 2, 825, 190, 191, 22, 18, 742, 743, 744, 21, 745, 746, 402, 747, 653, 654, 655, 748, 749, 750, 751, 752, 753, 754, 755, 65, 756, 757, 758, 17, 759, 47, 90, 91, 48, 111, 49, 112, 50, 51, 113, 114, 120, 121, 122, 760, 761, 762, 46, 763, 96, 97, 102, 55, 56, 57, 58, 59, 650, 651, 652, 656, 657, 658, 659, 1475, 1476, 1477, 1478, 1479, 1480, 1481, 1482, 1483, 1484, 1485, 1513, 1514, 1515, 1516, 1517, 1518, 1519, 1520, 1521, 1522, 1523, 1524, 1525, 1526, 1527, 1528, 1529, 1530, 1548, 1549, 1550, 1551, 1552, 1553, 1554, 1555] (by decide +kernel) (by decide +kernel)) (goodIn_sub (fun _ h => List.mem_append_left _ (List.mem_append_left _ (List.mem_append_right _ h))) (by decide +kernel))
set_option maxRecDepth 20000 in
theorem gL_law_L_setLimit : GoodIn wsL_law (va_wsS RL 151 yL_setLimit wsL_setLimit) := goodIn_app (goodIn_of _ (by decide +kernel)) ggL_law_L_setLimit
set_option maxRecDepth 20000 in
theorem ggL_law_X8_setLimit : GoodIn wsL_law wsX8_setLimit := goodIn_r _ [829, 130, 830, 831, 5, 832, 196, 197, 198, 165, 166, 167, 168, 169, 411, 412, 413, 414, 131, 768, 769, 770, 771, 409, 132, 174, 175, 176, 177, 1486, 1487, 1488, 1489, 1490, 1491, 1492, 1493, 1494, 1495, 1496, 1497, 1498, 1499, 1500, 1501, 1502, 1503, 1504, 1505, 1506, 1507, 1508, 1509, 1510, 1511, 1512] (by decide +kernel) (by decide +kernel)
set_option maxRecDepth 20000 in
theorem gL_law_X8_setLimit : GoodIn wsL_law (wsV RL 153 RX8 yX8_setLimit wsX8_setLimit) := goodIn_app (goodIn_of _ (by decide +kernel)) ggL_law_X8_setLimit
set_option maxRecDepth 20000 in
theorem ggL_law_L_save : GoodIn wsL_law wsL_save := goodIn_ca (goodIn_r _ [835, 185, 836, 837, 838, 2, 839, 22, 18, 840, 841, 842, 190, 191, 843, 844, 845, 21, 846, 401, 748, 749, 750, 751, 752, 753, 754, 755, 65, 756, 757, 758, 17, 759, 47, 90, 91, 48, 111, 49, 112, 50, 51, 113, 114, 120, 121, 122, 760, 761, 762, 46, 763, 96, 97, 102, 55, 56, 57, 58, 59, 650, 651, 652, 653, 654, 655, 656, 657, 658, 659, 1475, 1476, 1477, 1478, 1479, 1480, 1481, 1482, 1483, 1484, 1485, 1527, 1528, 1529, 1530, 1513, 1514, 1515, 1516, 1517, 1518, 1519, 1520, 1521, 1522, 1523, 1524, 1525, 1526, 1548, 1549, 1550, 1551, 1552, 1553, 1554, 1555] (by decide +kernel) (by decide +kernel)) (goodIn_sub (fun _ h => List.mem_append_left _ (List.mem_append_left _ (List.mem_append_right _ h))) (by decide +kernel))
set_option maxRecDepth 20000 in
theorem gL_law_L_save : GoodIn wsL_law (va_wsS RL 154 yL_save wsL_save) := goodIn_app (goodIn_of _ (by decide +kernel)) ggL_law_L_save
set_option maxRecDepth 20000 in
theorem ggL_law_X8_save : GoodIn wsL_law wsX8_save := goodIn_r _ [850, 169, 133, 130, 135, 851, 852, 5, 853, 196, 197, 198, 174, 175, 176, 177, 165, 166, 167, 168, 1486, 1487, 1488, 1489, 1490, 1491, 1492, 1493, 1494, 1495, 1496, 1497, 1498, 1499, 1500, 1501, 1502, 1503, 1504, 1505, 1506, 1507, 1508, 1509, 1510, 1511, 1512] (by decide +kernel) (by decide +kernel)
set_option maxRecDepth 20000 in
theorem gL_law_X8_save : GoodIn wsL_law (wsV RL 157 RX8 yX8_save wsX8_save) := goodIn_app (goodIn_of _ (by decide +kernel)) ggL_law_X8_save
set_option maxRecDepth 20000 in
theorem ggL_law_L_restore : GoodIn wsL_law wsL_restore := goodIn_ca (goodIn_ca (goodIn_r _ [856, 185, 857, 858, 859, 860, 2, 861, 862, 863, 22, 18, 840, 841, 842, 190, 191, 864, 865, 866, 21, 867, 401, 742, 743, 744, 745, 746, 402, 747, 653, 654, 655, 748, 749, 750, 751, 752, 753, 754, 755, 65, 756, 757, 758, 17, 759, 47, 90, 91, 48, 111, 49, 112, 50, 51, 113, 114, 120, 121, 122, 760, 761, 762, 46, 763, 96, 97, 102, 55, 56, 57, 58, 59, 650, 651, 652, 656, 657, 658, 659, 868, 869, 870, 871, 872, 873, 874, 875, 1475, 1476, 1477, 1478, 1479, 1480, 1481, 1482, 1483, 1484, 1485, 1513, 1514, 1515, 1516, 1517, 1518, 1519, 1520, 1521, 1522, 1523, 1524, 1525, 1526, 1527, 1528, 1529, 1530, 1548, 1549, 1550, 1551, 1552, 1553, 1554, 1555] (by decide +kernel) (by decide +kernel)) (goodIn_sub (fun _ h => List.mem_append_left _ (List.mem_append_right _ h)) (by decide +kernel))) (goodIn_sub (fun _ h => List.mem_append_left _ (List.mem_append_left _ (List.mem_append_right _ h))) (by decide +kernel))
set_option maxRecDepth 20000 in
theorem gL_law_L_restore : GoodIn wsL_law (va_wsS RL 158 yL_restore wsL_restore) := goodIn_app (goodIn_of _ (by decide +kernel)) ggL_law_L_restore
set_option maxRecDepth 20000 in
theorem ggL_law_X8_restore : GoodIn wsL_law wsX8_restore := goodIn_r _ [879, 135, 130, 133, 851, 852, 5, 853, 196, 197, 198, 165, 166, 167, 168, 169, 411, 412, 413, 414, 131, 768, 769, 770, 771, 409, 132, 174, 175, 176, 177, 1486, 1487, 1488, 1489, 1490, 1491, 1492, 1493, 1494, 1495, 1496, 1497, 1498, 1499, 1500, 1501, 1502, 1503, 1504, 1505, 1506, 1507, 1508, 1509, 1510, 1511, 1512] (by decide +kernel) (by decide +kernel)
set_option maxRecDepth 20000 in
theorem gL_law_X8_restore : GoodIn wsL_law (wsV RL 160 RX8 yX8_restore wsX8_restore) := goodIn_app (goodIn_of _ (by decide +kernel)) ggL_law_X8_restore
set_option maxRecDepth 20000 in
theorem ggL_law_L_undo : GoodIn wsL_law wsL_undo := goodIn_ca (goodIn_r _ [882, 145, 883, 884, 885, 2, 886, 150, 151, 22, 18, 887, 888, 889, 21, 890, 746, 402, 872, 873, 874, 875, 752, 753, 754, 755, 65, 756, 757, 758, 17, 759, 47, 90, 91, 48, 111, 49, 112, 50, 51, 113, 114, 120, 121, 122, 760, 761, 762, 46, 763, 96, 97, 102, 55, 56, 57, 58, 59, 650, 651, 652, 653, 654, 655, 656, 657, 658, 659, 1475, 1476, 1477, 1478, 1479, 1480, 1481, 1482, 1483, 1484, 1485, 1527, 1528, 1529, 1530, 1513, 1514, 1515, 1516, 1517, 1518, 1519, 1520, 1521, 1522, 1523, 1524, 1525, 1526, 1548, 1549, 1550, 1551, 1552, 1553, 1554, 1555] (by decide +kernel) (by decide +kernel)) (goodIn_sub (fun _ h => List.mem_append_left _ (List.mem_append_left _ (List.mem_append_left _ (List.mem_append_right _ h)))) (by decide +kernel))
set_option maxRecDepth 20000 in
theorem gL_law_L_undo : GoodIn wsL_law (va_wsS RL 161 yL_undo wsL_undo) := goodIn_app (goodIn_of _ (by decide +kernel)) ggL_law_L_undo
set_option maxRecDepth 20000 in
theorem ggL_law_X8_undo : GoodIn wsL_law wsX8_undo := goodIn_r _ [894, 409, 130, 132, 165, 166, 167, 5, 168, 169, 174, 175, 176, 177, 1486, 1487, 1488, 1489, 1490, 1491, 1492, 1493, 1494, 1495, 1496, 1497, 1498, 1499, 1500, 1501, 1502, 1503, 1504, 1505, 1506, 1507, 1508, 1509, 1510, 1511, 1512] (by decide +kernel) (by decide +kernel)
set_option maxRecDepth 20000 in
theorem gL_law_X8_undo : GoodIn wsL_law (wsV RL 163 RX8 yX8_undo wsX8_undo) := goodIn_app (goodIn_of _ (by decide +kernel)) ggL_law_X8_undo
set_option maxRecDepth 20000 in
theorem ggL_law_X7_alphabetSize : GoodIn wsL_law wsX7_alphabetSize := goodIn_r _ [898, 18, 1475, 1476, 1477, 1478, 1479, 1480, 1481, 1482, 1483, 1484, 1485, 1513, 1514, 1515, 1516, 1517, 1518, 1519, 1520, 1521, 1522, 1523, 1524, 1525, 1526, 1548, 1549, 1550, 1551, 1552, 1553, 1554, 1555] (by decide +kernel) (by decide +kernel)
set_option maxRecDepth 20000 in
theorem gL_law_X7_alphabetSize : GoodIn wsL_law (wsV RL 164 RX7 yX7_alphabetSize wsX7_alphabetSize) := goodIn_app (goodIn_of _ (by decide +kernel)) ggL_law_X7_alphabetSize
set_option maxRecDepth 20000 in
theorem ggL_law_X8_alphabetSize : GoodIn wsL_law wsX8_alphabetSize := goodIn_r _ [902, 130, 174, 175, 176, 5, 177, 169, 1486, 1487, 1488, 1489, 1490, 1491, 1492, 1493, 1494, 1495, 1496, 1497, 1498, 1499, 1500, 1501, 1502, 1503, 1504, 1505, 1506, 1507, 1508, 1509, 1510, 1511, 1512] (by decide +kernel) (by decide +kernel)
set_option maxRecDepth 20000 in
theorem gL_law_X8_alphabetSize : GoodIn wsL_law (wsV RL 167 RX8 yX8_alphabetSize wsX8_alphabetSize) := goodIn_app (goodIn_of _ (by decide +kernel)) ggL_law_X8_alphabetSize
set_option maxRecDepth 20000 in
theorem ggL_law_X7_greatestWidth : GoodIn wsL_law wsX7_greatestWidth := goodIn_r _ [906, 18, 1475, 1476, 1477, 1478, 1479, 1480, 1481, 1482, 1483, 1484, 1485, 1513, 1514, 1515, 1516, 1517, 1518, 1519, 1520, 1521, 1522, 1523, 1524, 1525, 1526, 1548, 1549, 1550, 1551, 1552, 1553, 1554, 1555] (by decide +kernel) (by decide +kernel)
set_option maxRecDepth 20000 in
theorem gL_law_X7_greatestWidth : GoodIn wsL_law (wsV RL 168 RX7 yX7_greatestWidth wsX7_greatestWidth) := goodIn_app (goodIn_of _ (by decide +kernel)) ggL_law_X7_greatestWidth
set_option maxRecDepth 20000 in
theorem ggL_law_X8_greatestWidth : GoodIn wsL_law wsX8_greatestWidth := goodIn_r _ [910, 130, 174, 175, 176, 5, 177, 169, 1486, 1487, 1488, 1489, 1490, 1491, 1492, 1493, 1494, 1495, 1496, 1497, 1498, 1499, 1500, 1501, 1502, 1503, 1504, 1505, 1506, 1507, 1508, 1509, 1510, 1511, 1512] (by decide +kernel) (by decide +kernel)
set_option maxRecDepth 20000 in
theorem gL_law_X8_greatestWidth : GoodIn wsL_law (wsV RL 171 RX8 yX8_greatestWidth wsX8_greatestWidth) := goodIn_app (goodIn_of _ (by decide +kernel)) ggL_law_X8_greatestWidth
set_option maxRecDepth 20000 in
theorem ggL_law_X7_policy : GoodIn wsL_law wsX7_policy := goodIn_r _ [914, 18, 1475, 1476, 1477, 1478, 1479, 1480, 1481, 1482, 1483, 1484, 1485, 1513, 1514, 1515, 1516, 1517, 1518, 1519, 1520, 1521, 1522, 1523, 1524, 1525, 1526] (by decide +kernel) (by decide +kernel)
set_option maxRecDepth 20000 in
theorem gL_law_X7_policy : GoodIn wsL_law (wsV RL 172 RX7 yX7_policy wsX7_policy) := goodIn_app (goodIn_of _ (by decide +kernel)) ggL_law_X7_policy
set_option maxRecDepth 20000 in
theorem ggL_law_X8_policy : GoodIn wsL_law wsX8_policy := goodIn_r _ [918, 130, 174, 175, 176, 5, 177, 169, 1486, 1487, 1488, 1489, 1490, 1491, 1492, 1493, 1494, 1495, 1496, 1497, 1498, 1499, 1500, 1501, 1502, 1503, 1504, 1505, 1506, 1507, 1508, 1509, 1510, 1511, 1512] (by decide +kernel) (by decide +kernel)
set_option maxRecDepth 20000 in
theorem gL_law_X8_policy : GoodIn wsL_law (wsV RL 175 RX8 yX8_policy wsX8_policy) := goodIn_app (goodIn_of _ (by decide +kernel)) ggL_law_X8_policy
set_option maxRecDepth 20000 in
theorem ggL_law_X7_limit : GoodIn wsL_law wsX7_limit := goodIn_r _ [922, 18, 1475, 1476, 1477, 1478, 1479, 1480, 1481, 1482, 1483, 1484, 1485, 1513, 1514, 1515, 1516, 1517, 1518, 1519, 1520, 1521, 1522, 1523, 1524, 1525, 1526] (by decide +kernel) (by decide +kernel)
set_option maxRecDepth 20000 in
theorem gL_law_X7_limit : GoodIn wsL_law (wsV RL 176 RX7 yX7_limit wsX7_limit) := goodIn_app (goodIn_of _ (by decide +kernel)) ggL_law_X7_limit
set_option maxRecDepth 20000 in
theorem ggL_law_X8_limit : GoodIn wsL_law wsX8_limit := goodIn_r _ [926, 130, 174, 175, 176, 5, 177, 169, 1486, 1487, 1488, 1489, 1490, 1491, 1492, 1493, 1494, 1495, 1496, 1497, 1498, 1499, 1500, 1501, 1502, 1503, 1504, 1505, 1506, 1507, 1508, 1509, 1510, 1511, 1512] (by decide +kernel) (by decide +kernel)
set_option maxRecDepth 20000 in
theorem gL_law_X8_limit : GoodIn wsL_law (wsV RL 179 RX8 yX8_limit wsX8_limit) := goodIn_app (goodIn_of _ (by decide +kernel)) ggL_law_X8_limit
set_option maxRecDepth 20000 in
theorem ggL_law_X7_plainWidth : GoodIn wsL_law wsX7_plainWidth := goodIn_r _ [930, 18, 931, 373, 374, 46, 375, 96, 362, 2, 363, 1475, 1476, 1477, 1478, 1479, 1480, 1481, 1482, 1483, 1484, 1485, 1513, 1514, 1515, 1516, 1517, 1518, 1519, 1520, 1521, 1522, 1523, 1524, 1525, 1526, 1548, 1549, 1550, 1551, 1552, 1553, 1554, 1555] (by decide +kernel) (by decide +kernel)
set_option maxRecDepth 20000 in
theorem gL_law_X7_plainWidth : GoodIn wsL_law (wsV RL 180 RX7 yX7_plainWidth wsX7_plainWidth) := goodIn_app (goodIn_of _ (by decide +kernel)) ggL_law_X7_plainWidth
set_option maxRecDepth 20000 in
theorem ggL_law_X8_plainWidth : GoodIn wsL_law wsX8_plainWidth := goodIn_r _ [935, 585, 586, 587, 5, 588, 130, 534, 535, 536, 174, 175, 176, 177, 169, 1486, 1487, 1488, 1489, 1490, 1491, 1492, 1493, 1494, 1495, 1496, 1497, 1498, 1499, 1500, 1501, 1502, 1503, 1504, 1505, 1506, 1507, 1508, 1509, 1510, 1511, 1512] (by decide +kernel) (by decide +kernel)
set_option maxRecDepth 20000 in
theorem gL_law_X8_plainWidth : GoodIn wsL_law (wsV RL 183 RX8 yX8_plainWidth wsX8_plainWidth) := goodIn_app (goodIn_of _ (by decide +kernel)) ggL_law_X8_plainWidth
set_option maxRecDepth 20000 in
theorem ggL_law_X7_clearCode : GoodIn wsL_law wsX7_clearCode := goodIn_r _ [939, 18, 1475, 1476, 1477, 1478, 1479, 1480, 1481, 1482, 1483, 1484, 1485, 1513, 1514, 1515, 1516, 1517, 1518, 1519, 1520, 1521, 1522, 1523, 1524, 1525, 1526, 1548, 1549, 1550, 1551, 1552, 1553, 1554, 1555] (by decide +kernel) (by decide +kernel)
set_option maxRecDepth 20000 in
theorem gL_law_X7_clearCode : GoodIn wsL_law (wsV RL 184 RX7 yX7_clearCode wsX7_clearCode) := goodIn_app (goodIn_of _ (by decide +kernel)) ggL_law_X7_clearCode
set_option maxRecDepth 20000 in
theorem ggL_law_X8_clearCode : GoodIn wsL_law wsX8_clearCode := goodIn_r _ [943, 522, 523, 524, 5, 525, 130, 174, 175, 176, 177, 169, 1486, 1487, 1488, 1489, 1490, 1491, 1492, 1493, 1494, 1495, 1496, 1497, 1498, 1499, 1500, 1501, 1502, 1503, 1504, 1505, 1506, 1507, 1508, 1509, 1510, 1511, 1512] (by decide +kernel) (by decide +kernel)
set_option maxRecDepth 20000 in
theorem gL_law_X8_clearCode : GoodIn wsL_law (wsV RL 187 RX8 yX8_clearCode wsX8_clearCode) := goodIn_app (goodIn_of _ (by decide +kernel)) ggL_law_X8_clearCode
set_option maxRecDepth 20000 in
theorem ggL_law_X7_codeCount : GoodIn wsL_law wsX7_codeCount := goodIn_r _ [947, 18, 1475, 1476, 1477, 1478, 1479, 1480, 1481, 1482, 1483, 1484, 1485, 1513, 1514, 1515, 1516, 1517, 1518, 1519, 1520, 1521, 1522, 1523, 1524, 1525, 1526, 1548, 1549, 1550, 1551, 1552, 1553, 1554, 1555] (by decide +kernel) (by decide +kernel)
set_option maxRecDepth 20000 in
theorem gL_law_X7_codeCount : GoodIn wsL_law (wsV RL 188 RX7 yX7_codeCount wsX7_codeCount) := goodIn_app (goodIn_of _ (by decide +kernel)) ggL_law_X7_codeCount
set_option maxRecDepth 20000 in
theorem ggL_law_X8_codeCount : GoodIn wsL_law wsX8_codeCount := goodIn_r _ [951, 130, 174, 175, 176, 5, 177, 169, 1486, 1487, 1488, 1489, 1490, 1491, 1492, 1493, 1494, 1495, 1496, 1497, 1498, 1499, 1500, 1501, 1502, 1503, 1504, 1505, 1506, 1507, 1508, 1509, 1510, 1511, 1512] (by decide +kernel) (by decide +kernel)
set_option maxRecDepth 20000 in
theorem gL_law_X8_codeCount : GoodIn wsL_law (wsV RL 191 RX8 yX8_codeCount wsX8_codeCount) := goodIn_app (goodIn_of _ (by decide +kernel)) ggL_law_X8_codeCount
set_option maxRecDepth 20000 in
theorem ggL_law_X7_capacity : GoodIn wsL_law wsX7_capacity := goodIn_r _ [955, 18, 956, 355, 356, 46, 357, 97, 1475, 1476, 1477, 1478, 1479, 1480, 1481, 1482, 1483, 1484, 1485, 1513, 1514, 1515, 1516, 1517, 1518, 1519, 1520, 1521, 1522, 1523, 1524, 1525, 1526, 1548, 1549, 1550, 1551, 1552, 1553, 1554, 1555] (by decide +kernel) (by decide +kernel)
set_option maxRecDepth 20000 in
theorem gL_law_X7_capacity : GoodIn wsL_law (wsV RL 192 RX7 yX7_capacity wsX7_capacity) := goodIn_app (goodIn_of _ (by decide +kernel)) ggL_law_X7_capacity
set_option maxRecDepth 20000 in
theorem ggL_law_X8_capacity : GoodIn wsL_law wsX8_capacity := goodIn_r _ [960, 553, 554, 555, 5, 556, 130, 174, 175, 176, 177, 169, 1486, 1487, 1488, 1489, 1490, 1491, 1492, 1493, 1494, 1495, 1496, 1497, 1498, 1499, 1500, 1501, 1502, 1503, 1504, 1505, 1506, 1507, 1508, 1509, 1510, 1511, 1512] (by decide +kernel) (by decide +kernel)
set_option maxRecDepth 20000 in
theorem gL_law_X8_capacity : GoodIn wsL_law (wsV RL 195 RX8 yX8_capacity wsX8_capacity) := goodIn_app (goodIn_of _ (by decide +kernel)) ggL_law_X8_capacity
set_option maxRecDepth 20000 in
theorem ggL_law_X7_isFull : GoodIn wsL_law wsX7_isFull := goodIn_r _ [964, 18, 965, 351, 352, 46, 353, 102, 354, 355, 356, 357, 97, 1475, 1476, 1477, 1478, 1479, 1480, 1481, 1482, 1483, 1484, 1485, 1513, 1514, 1515, 1516, 1517, 1518, 1519, 1520, 1521, 1522, 1523, 1524, 1525, 1526, 1548, 1549, 1550, 1551, 1552, 1553, 1554, 1555] (by decide +kernel) (by decide +kernel)
set_option maxRecDepth 20000 in
theorem gL_law_X7_isFull : GoodIn wsL_law (wsV RL 196 RX7 yX7_isFull wsX7_isFull) := goodIn_app (goodIn_of _ (by decide +kernel)) ggL_law_X7_isFull
set_option maxRecDepth 20000 in
theorem ggL_law_X8_isFull : GoodIn wsL_law wsX8_isFull := goodIn_r _ [969, 549, 550, 551, 5, 552, 130, 553, 554, 555, 556, 970, 971, 972, 973, 169, 1486, 1487, 1488, 1489, 1490, 1491, 1492, 1493, 1494, 1495, 1496, 1497, 1498, 1499, 1500, 1501, 1502, 1503, 1504, 1505, 1506, 1507, 1508, 1509, 1510, 1511, 1512] (by decide +kernel) (by decide +kernel)
set_option maxRecDepth 20000 in
theorem gL_law_X8_isFull : GoodIn wsL_law (wsV RL 200 RX8 yX8_isFull wsX8_isFull) := goodIn_app (goodIn_of _ (by decide +kernel)) ggL_law_X8_isFull
set_option maxRecDepth 20000 in
theorem ggL_law_X7_codeWidth : GoodIn wsL_law wsX7_codeWidth := goodIn_r _ [977, 18, 978, 359, 360, 46, 361, 102, 362, 2, 363, 1475, 1476, 1477, 1478, 1479, 1480, 1481, 1482, 1483, 1484, 1485, 1513, 1514, 1515, 1516, 1517, 1518, 1519, 1520, 1521, 1522, 1523, 1524, 1525, 1526, 1548, 1549, 1550, 1551, 1552, 1553, 1554, 1555] (by decide +kernel) (by decide +kernel)
set_option maxRecDepth 20000 in
theorem gL_law_X7_codeWidth : GoodIn wsL_law (wsV RL 201 RX7 yX7_codeWidth wsX7_codeWidth) := goodIn_app (goodIn_of _ (by decide +kernel)) ggL_law_X7_codeWidth
set_option maxRecDepth 20000 in
theorem ggL_law_X8_codeWidth : GoodIn wsL_law wsX8_codeWidth := goodIn_r _ [982, 130, 534, 535, 5, 536, 174, 175, 176, 177, 169, 1486, 1487, 1488, 1489, 1490, 1491, 1492, 1493, 1494, 1495, 1496, 1497, 1498, 1499, 1500, 1501, 1502, 1503, 1504, 1505, 1506, 1507, 1508, 1509, 1510, 1511, 1512] (by decide +kernel) (by decide +kernel)
set_option maxRecDepth 20000 in
theorem gL_law_X8_codeWidth : GoodIn wsL_law (wsV RL 204 RX8 yX8_codeWidth wsX8_codeWidth) := goodIn_app (goodIn_of _ (by decide +kernel)) ggL_law_X8_codeWidth
set_option maxRecDepth 20000 in
theorem ggL_law_L_phraseLength : GoodIn wsL_law wsL_phraseLength := goodIn_ca (goodIn_r _ [985, 986, 987, 988, 989, 2, 990, 18, 991, 992, 993, 994, 995, 996, 997, 998, 999, 1000, 365, 366, 46, 367, 57, 229, 230, 1475, 1476, 1477, 1478, 1479, 1480, 1481, 1482, 1483, 1484, 1485, 1513, 1514, 1515, 1516, 1517, 1518, 1519, 1520, 1521, 1522, 1523, 1524, 1525, 1526, 1548, 1549, 1550, 1551, 1552, 1553, 1554, 1555] (by decide +kernel) (by decide +kernel)) (goodIn_sub (fun _ h => List.mem_append_right _ h) (by decide +kernel))
set_option maxRecDepth 20000 in
theorem gL_law_L_phraseLength : GoodIn wsL_law (va_wsS RL 205 yL_phraseLength wsL_phraseLength) := goodIn_app (goodIn_of _ (by decide +kernel)) ggL_law_L_phraseLength
set_option maxRecDepth 20000 in
theorem ggL_law_X8_phraseLength : GoodIn wsL_law wsX8_phraseLength := goodIn_r _ [1004, 1005, 1006, 1007, 5, 1008, 130, 196, 197, 198, 165, 166, 167, 168, 169, 537, 538, 539, 540, 522, 523, 524, 525, 541, 542, 543, 544, 174, 175, 176, 177, 1486, 1487, 1488, 1489, 1490, 1491, 1492, 1493, 1494, 1495, 1496, 1497, 1498, 1499, 1500, 1501, 1502, 1503, 1504, 1505, 1506, 1507, 1508, 1509, 1510, 1511, 1512] (by decide +kernel) (by decide +kernel)
set_option maxRecDepth 20000 in
theorem gL_law_X8_phraseLength : GoodIn wsL_law (wsV RL 207 RX8 yX8_phraseLength wsX8_phraseLength) := goodIn_app (goodIn_of _ (by decide +kernel)) ggL_law_X8_phraseLength
set_option maxRecDepth 20000 in
theorem ggL_law_L_phraseSymbol : GoodIn wsL_law wsL_phraseSymbol := goodIn_ca (goodIn_r _ [1011, 986, 1012, 1013, 1014, 2, 1015, 18, 991, 992, 993, 994, 995, 996, 997, 998, 999, 1000, 365, 366, 46, 367, 57, 229, 230, 1016, 635, 636, 637, 55, 56, 396, 1475, 1476, 1477, 1478, 1479, 1480, 1481, 1482, 1483, 1484, 1485, 1513, 1514, 1515, 1516, 1517, 1518, 1519, 1520, 1521, 1522, 1523, 1524, 1525, 1526, 1548, 1549, 1550, 1551, 1552, 1553, 1554, 1555] (by decide +kernel) (by decide +kernel)) (goodIn_sub (fun _ h => List.mem_append_right _ h) (by decide +kernel))
set_option maxRecDepth 20000 in
theorem gL_law_L_phraseSymbol : GoodIn wsL_law (va_wsS RL 208 yL_phraseSymbol wsL_phraseSymbol) := goodIn_app (goodIn_of _ (by decide +kernel)) ggL_law_L_phraseSymbol
set_option maxRecDepth 20000 in
theorem ggL_law_X8_phraseSymbol : GoodIn wsL_law wsX8_phraseSymbol := goodIn_r _ [1020, 1005, 1006, 1007, 5, 1008, 130, 196, 197, 198, 165, 166, 167, 168, 169, 537, 538, 539, 540, 522, 523, 524, 525, 541, 542, 543, 544, 1021, 1022, 1023, 1024, 174, 175, 176, 177, 1486, 1487, 1488, 1489, 1490, 1491, 1492, 1493, 1494, 1495, 1496, 1497, 1498, 1499, 1500, 1501, 1502, 1503, 1504, 1505, 1506, 1507, 1508, 1509, 1510, 1511, 1512] (by decide +kernel) (by decide +kernel)
set_option maxRecDepth 20000 in
theorem gL_law_X8_phraseSymbol : GoodIn wsL_law (wsV RL 211 RX8 yX8_phraseSymbol wsX8_phraseSymbol) := goodIn_app (goodIn_of _ (by decide +kernel)) ggL_law_X8_phraseSymbol
set_option maxRecDepth 20000 in
theorem ggL_law_L_prefixOf : GoodIn wsL_law wsL_prefixOf := goodIn_ca (goodIn_ca (goodIn_r _ [1027, 986, 857, 1028, 1029, 1030, 2, 1031, 862, 863, 18, 991, 992, 993, 994, 995, 996, 997, 998, 999, 1000, 365, 366, 46, 367, 57, 229, 230, 333, 1475, 1476, 1477, 1478, 1479, 1480, 1481, 1482, 1483, 1484, 1485, 1513, 1514, 1515, 1516, 1517, 1518, 1519, 1520, 1521, 1522, 1523, 1524, 1525, 1526, 1548, 1549, 1550, 1551, 1552, 1553, 1554, 1555] (by decide +kernel) (by decide +kernel)) (goodIn_sub (fun _ h => List.mem_append_left _ (List.mem_append_right _ h)) (by decide +kernel))) (goodIn_sub (fun _ h => List.mem_append_right _ h) (by decide +kernel))
set_option maxRecDepth 20000 in
theorem gL_law_L_prefixOf : GoodIn wsL_law (va_wsS RL 212 yL_prefixOf wsL_prefixOf) := goodIn_app (goodIn_of _ (by decide +kernel)) ggL_law_L_prefixOf
set_option maxRecDepth 20000 in
theorem ggL_law_X8_prefixOf : GoodIn wsL_law wsX8_prefixOf := goodIn_r _ [1035, 130, 1005, 1006, 1007, 5, 1008, 196, 197, 198, 165, 166, 167, 168, 169, 541, 542, 543, 544, 522, 523, 524, 525, 174, 175, 176, 177, 1486, 1487, 1488, 1489, 1490, 1491, 1492, 1493, 1494, 1495, 1496, 1497, 1498, 1499, 1500, 1501, 1502, 1503, 1504, 1505, 1506, 1507, 1508, 1509, 1510, 1511, 1512] (by decide +kernel) (by decide +kernel)
set_option maxRecDepth 20000 in
theorem gL_law_X8_prefixOf : GoodIn wsL_law (wsV RL 214 RX8 yX8_prefixOf wsX8_prefixOf) := goodIn_app (goodIn_of _ (by decide +kernel)) ggL_law_X8_prefixOf
set_option maxRecDepth 20000 in
theorem ggL_law_L_extensionOf : GoodIn wsL_law wsL_extensionOf := goodIn_ca (goodIn_ca (goodIn_ca (goodIn_r _ [1038, 986, 185, 857, 1039, 1040, 1041, 2, 1042, 190, 191, 862, 863, 18, 991, 992, 993, 994, 995, 996, 997, 998, 999, 734, 735, 736, 737, 738, 739, 740, 741, 1043, 343, 344, 46, 345, 58, 96, 56, 59, 229, 230, 1475, 1476, 1477, 1478, 1479, 1480, 1481, 1482, 1483, 1484, 1485, 1513, 1514, 1515, 1516, 1517, 1518, 1519, 1520, 1521, 1522, 1523, 1524, 1525, 1526, 1548, 1549, 1550, 1551, 1552, 1553, 1554, 1555] (by decide +kernel) (by decide +kernel)) (goodIn_sub (fun _ h => List.mem_append_left _ (List.mem_append_left _ (List.mem_append_right _ h))) (by decide +kernel))) (goodIn_sub (fun _ h => List.mem_append_left _ (List.mem_append_right _ h)) (by decide +kernel))) (goodIn_sub (fun _ h => List.mem_append_right _ h) (by decide +kernel))
set_option maxRecDepth 20000 in
theorem gL_law_L_extensionOf : GoodIn wsL_law (va_wsS RL 215 yL_extensionOf wsL_extensionOf) := goodIn_app (goodIn_of _ (by decide +kernel)) ggL_law_L_extensionOf
set_option maxRecDepth 20000 in
theorem ggL_law_X8_extensionOf : GoodIn wsL_law wsX8_extensionOf := goodIn_r _ [1047, 1005, 1006, 1007, 5, 1008, 130, 196, 197, 198, 165, 166, 167, 168, 169, 506, 507, 508, 509, 522, 523, 524, 525, 518, 519, 520, 521, 174, 175, 176, 177, 1486, 1487, 1488, 1489, 1490, 1491, 1492, 1493, 1494, 1495, 1496, 1497, 1498, 1499, 1500, 1501, 1502, 1503, 1504, 1505, 1506, 1507, 1508, 1509, 1510, 1511, 1512] (by decide +kernel) (by decide +kernel)
set_option maxRecDepth 20000 in
theorem gL_law_X8_extensionOf : GoodIn wsL_law (wsV RL 217 RX8 yX8_extensionOf wsX8_extensionOf) := goodIn_app (goodIn_of _ (by decide +kernel)) ggL_law_X8_extensionOf
set_option maxRecDepth 20000 in
theorem ggL_law_L_extensionCount : GoodIn wsL_law wsL_extensionCount := goodIn_ca (goodIn_r _ [1050, 986, 1051, 1052, 1053, 2, 1054, 18, 991, 992, 993, 994, 995, 996, 997, 998, 999, 1055, 1056, 1057, 46, 1058, 58, 96, 59, 229, 230, 1475, 1476, 1477, 1478, 1479, 1480, 1481, 1482, 1483, 1484, 1485, 1513, 1514, 1515, 1516, 1517, 1518, 1519, 1520, 1521, 1522, 1523, 1524, 1525, 1526, 1548, 1549, 1550, 1551, 1552, 1553, 1554, 1555] (by decide +kernel) (by decide +kernel)) (goodIn_sub (fun _ h => List.mem_append_right _ h) (by decide +kernel))
set_option maxRecDepth 20000 in
theorem gL_law_L_extensionCount : GoodIn wsL_law (va_wsS RL 218 yL_extensionCount wsL_extensionCount) := goodIn_app (goodIn_of _ (by decide +kernel)) ggL_law_L_extensionCount
set_option maxRecDepth 20000 in
theorem ggL_law_X8_extensionCount : GoodIn wsL_law wsX8_extensionCount := goodIn_r _ [1062, 130, 1005, 1006, 1007, 5, 1008, 196, 197, 198, 165, 166, 167, 168, 169, 522, 523, 524, 525, 174, 175, 176, 177, 1486, 1487, 1488, 1489, 1490, 1491, 1492, 1493, 1494, 1495, 1496, 1497, 1498, 1499, 1500, 1501, 1502, 1503, 1504, 1505, 1506, 1507, 1508, 1509, 1510, 1511, 1512] (by decide +kernel) (by decide +kernel)
set_option maxRecDepth 20000 in
theorem gL_law_X8_extensionCount : GoodIn wsL_law (wsV RL 220 RX8 yX8_extensionCount wsX8_extensionCount) := goodIn_app (goodIn_of _ (by decide +kernel)) ggL_law_X8_extensionCount
set_option maxRecDepth 20000 in
theorem ggL_law_X7_longestPhrase : GoodIn wsL_law wsX7_longestPhrase := goodIn_r _ [1066, 18, 1067, 1068, 1069, 46, 1070, 102, 396, 365, 366, 367, 57, 229, 2, 230, 1475, 1476, 1477, 1478, 1479, 1480, 1481, 1482, 1483, 1484, 1485, 1513, 1514, 1515, 1516, 1517, 1518, 1519, 1520, 1521, 1522, 1523, 1524, 1525, 1526, 1548, 1549, 1550, 1551, 1552, 1553, 1554, 1555] (by decide +kernel) (by decide +kernel)
set_option maxRecDepth 20000 in
theorem gL_law_X7_longestPhrase : GoodIn wsL_law (wsV RL 221 RX7 yX7_longestPhrase wsX7_longestPhrase) := goodIn_app (goodIn_of _ (by decide +kernel)) ggL_law_X7_longestPhrase
set_option maxRecDepth 20000 in
theorem ggL_law_X8_longestPhrase : GoodIn wsL_law wsX8_longestPhrase := goodIn_r _ [1074, 130, 537, 538, 539, 5, 540, 522, 523, 524, 525, 541, 542, 543, 544, 174, 175, 176, 177, 169, 1486, 1487, 1488, 1489, 1490, 1491, 1492, 1493, 1494, 1495, 1496, 1497, 1498, 1499, 1500, 1501, 1502, 1503, 1504, 1505, 1506, 1507, 1508, 1509, 1510, 1511, 1512] (by decide +kernel) (by decide +kernel)
set_option maxRecDepth 20000 in
theorem gL_law_X8_longestPhrase : GoodIn wsL_law (wsV RL 224 RX8 yX8_longestPhrase wsX8_longestPhrase) := goodIn_app (goodIn_of _ (by decide +kernel)) ggL_law_X8_longestPhrase
set_option maxRecDepth 20000 in
theorem ggL_law_L_usesOf : GoodIn wsL_law wsL_usesOf := goodIn_ca (goodIn_r _ [1077, 986, 1078, 1079, 1080, 2, 1081, 18, 991, 992, 993, 994, 995, 996, 997, 998, 999, 1082, 1083, 1084, 17, 1085, 112, 50, 229, 230, 1475, 1476, 1477, 1478, 1479, 1480, 1481, 1482, 1483, 1484, 1485, 1513, 1514, 1515, 1516, 1517, 1518, 1519, 1520, 1521, 1522, 1523, 1524, 1525, 1526, 1548, 1549, 1550, 1551, 1552, 1553, 1554, 1555] (by decide +kernel) (by decide +kernel)) (goodIn_sub (fun _ h => List.mem_append_right _ h) (by decide +kernel))
set_option maxRecDepth 20000 in
theorem gL_law_L_usesOf : GoodIn wsL_law (va_wsS RL 225 yL_usesOf wsL_usesOf) := goodIn_app (goodIn_of _ (by decide +kernel)) ggL_law_L_usesOf
set_option maxRecDepth 20000 in
theorem ggL_law_X8_usesOf : GoodIn wsL_law wsX8_usesOf := goodIn_r _ [1089, 130, 1005, 1006, 1007, 5, 1008, 196, 197, 198, 165, 166, 167, 168, 169, 577, 578, 579, 580, 174, 175, 176, 177, 1486, 1487, 1488, 1489, 1490, 1491, 1492, 1493, 1494, 1495, 1496, 1497, 1498, 1499, 1500, 1501, 1502, 1503, 1504, 1505, 1506, 1507, 1508, 1509, 1510, 1511, 1512] (by decide +kernel) (by decide +kernel)
set_option maxRecDepth 20000 in
theorem gL_law_X8_usesOf : GoodIn wsL_law (wsV RL 227 RX8 yX8_usesOf wsX8_usesOf) := goodIn_app (goodIn_of _ (by decide +kernel)) ggL_law_X8_usesOf
set_option maxRecDepth 20000 in
theorem ggL_law_L_findTape : GoodIn wsL_law wsL_findTape := goodIn_ca (goodIn_r _ [1092, 857, 1093, 1094, 1095, 2, 1096, 862, 863, 1097, 1098, 1099, 1100, 152, 14, 18, 333, 229, 230, 738, 739, 740, 741, 1043, 343, 344, 46, 345, 58, 96, 56, 59, 1475, 1476, 1477, 1478, 1479, 1480, 1481, 1482, 1483, 1484, 1485, 1513, 1514, 1515, 1516, 1517, 1518, 1519, 1520, 1521, 1522, 1523, 1524, 1525, 1526, 1548, 1549, 1550, 1551, 1552, 1553, 1554, 1555] (by decide +kernel) (by decide +kernel)) (goodIn_sub (fun _ h => List.mem_append_left _ (List.mem_append_right _ h)) (by decide +kernel))
set_option maxRecDepth 20000 in
theorem gL_law_L_findTape : GoodIn wsL_law (va_wsS RL 228 yL_findTape wsL_findTape) := goodIn_app (goodIn_of _ (by decide +kernel)) ggL_law_L_findTape
set_option maxRecDepth 20000 in
theorem ggL_law_X8_findTape : GoodIn wsL_law wsX8_findTape := goodIn_r _ [1104, 1105, 1106, 1107, 5, 1108, 164, 128, 498, 499, 500, 501, 502, 503, 504, 505, 506, 507, 508, 509, 130, 196, 197, 198, 518, 519, 520, 521, 522, 523, 524, 525, 165, 166, 167, 168, 169, 174, 175, 176, 177, 1486, 1487, 1488, 1489, 1490, 1491, 1492, 1493, 1494, 1495, 1496, 1497, 1498, 1499, 1500, 1501, 1502, 1503, 1504, 1505, 1506, 1507, 1508, 1509, 1510, 1511, 1512] (by decide +kernel) (by decide +kernel)
set_option maxRecDepth 20000 in
theorem gL_law_X8_findTape : GoodIn wsL_law (wsV RL 230 RX8 yX8_findTape wsX8_findTape) := goodIn_app (goodIn_of _ (by decide +kernel)) ggL_law_X8_findTape
set_option maxRecDepth 20000 in
theorem ggL_law_X7_hasPhrase : GoodIn wsL_law wsX7_hasPhrase := goodIn_r _ [1112, 18, 1475, 1476, 1477, 1478, 1479, 1480, 1481, 1482, 1483, 1484, 1485, 1513, 1514, 1515, 1516, 1517, 1518, 1519, 1520, 1521, 1522, 1523, 1524, 1525, 1526] (by decide +kernel) (by decide +kernel)
set_option maxRecDepth 20000 in
theorem gL_law_X7_hasPhrase : GoodIn wsL_law (wsV RL 231 RX7 yX7_hasPhrase wsX7_hasPhrase) := goodIn_app (goodIn_of _ (by decide +kernel)) ggL_law_X7_hasPhrase
set_option maxRecDepth 20000 in
theorem ggL_law_X8_hasPhrase : GoodIn wsL_law wsX8_hasPhrase := goodIn_r _ [1116, 130, 970, 971, 972, 5, 973, 169, 1486, 1487, 1488, 1489, 1490, 1491, 1492, 1493, 1494, 1495, 1496, 1497, 1498, 1499, 1500, 1501, 1502, 1503, 1504, 1505, 1506, 1507, 1508, 1509, 1510, 1511, 1512] (by decide +kernel) (by decide +kernel)
set_option maxRecDepth 20000 in
theorem gL_law_X8_hasPhrase : GoodIn wsL_law (wsV RL 234 RX8 yX8_hasPhrase wsX8_hasPhrase) := goodIn_app (goodIn_of _ (by decide +kernel)) ggL_law_X8_hasPhrase
set_option maxRecDepth 20000 in
theorem ggL_law_L_currentPhrase : GoodIn wsL_law wsL_currentPhrase := goodIn_ca (goodIn_r _ [1119, 857, 1120, 1121, 1122, 2, 1123, 862, 863, 18, 1475, 1476, 1477, 1478, 1479, 1480, 1481, 1482, 1483, 1484, 1485, 1513, 1514, 1515, 1516, 1517, 1518, 1519, 1520, 1521, 1522, 1523, 1524, 1525, 1526] (by decide +kernel) (by decide +kernel)) (goodIn_sub (fun _ h => List.mem_append_left _ (List.mem_append_right _ h)) (by decide +kernel))
set_option maxRecDepth 20000 in
theorem gL_law_L_currentPhrase : GoodIn wsL_law (va_wsS RL 235 yL_currentPhrase wsL_currentPhrase) := goodIn_app (goodIn_of _ (by decide +kernel)) ggL_law_L_currentPhrase
set_option maxRecDepth 20000 in
theorem ggL_law_X8_currentPhrase : GoodIn wsL_law wsX8_currentPhrase := goodIn_r _ [1127, 130, 165, 166, 167, 5, 168, 169, 174, 175, 176, 177, 1486, 1487, 1488, 1489, 1490, 1491, 1492, 1493, 1494, 1495, 1496, 1497, 1498, 1499, 1500, 1501, 1502, 1503, 1504, 1505, 1506, 1507, 1508, 1509, 1510, 1511, 1512] (by decide +kernel) (by decide +kernel)
set_option maxRecDepth 20000 in
theorem gL_law_X8_currentPhrase : GoodIn wsL_law (wsV RL 237 RX8 yX8_currentPhrase wsX8_currentPhrase) := goodIn_app (goodIn_of _ (by decide +kernel)) ggL_law_X8_currentPhrase
set_option maxRecDepth 20000 in
theorem ggL_law_L_codesIfEncoded : GoodIn wsL_law wsL_codesIfEncoded := goodIn_ca (goodIn_r _ [1130, 185, 1131, 1132, 1133, 2, 1134, 18, 734, 735, 736, 737, 190, 191, 738, 739, 740, 741, 1135, 339, 340, 17, 341, 48, 47, 342, 343, 344, 46, 345, 58, 96, 56, 59, 229, 230, 346, 347, 348, 349, 90, 122, 121, 91, 350, 351, 352, 353, 102, 354, 355, 356, 357, 97, 358, 359, 360, 361, 362, 363, 364, 365, 366, 367, 57, 368, 369, 370, 371, 372, 373, 374, 375, 1475, 1476, 1477, 1478, 1479, 1480, 1481, 1482, 1483, 1484, 1485, 1513, 1514, 1515, 1516, 1517, 1518, 1519, 1520, 1521, 1522, 1523, 1524, 1525, 1526, 1548, 1549, 1550, 1551, 1552, 1553, 1554, 1555] (by decide +kernel) (by decide +kernel)) (goodIn_sub (fun _ h => List.mem_append_left _ (List.mem_append_left _ (List.mem_append_right _ h))) (by decide +kernel))
set_option maxRecDepth 20000 in
theorem gL_law_L_codesIfEncoded : GoodIn wsL_law (va_wsS RL 238 yL_codesIfEncoded wsL_codesIfEncoded) := goodIn_app (goodIn_of _ (by decide +kernel)) ggL_law_L_codesIfEncoded
set_option maxRecDepth 20000 in
theorem ggL_law_X8_codesIfEncoded : GoodIn wsL_law wsX8_codesIfEncoded := goodIn_r _ [1139, 506, 507, 508, 5, 509, 130, 196, 197, 198, 165, 166, 167, 168, 169, 1140, 1141, 1142, 1143, 1144, 1145, 1146, 1147, 518, 519, 520, 521, 522, 523, 524, 525, 1148, 1149, 1150, 1151, 1152, 1153, 1154, 1155, 549, 550, 551, 552, 553, 554, 555, 556, 561, 562, 563, 564, 565, 566, 567, 568, 569, 570, 571, 572, 534, 535, 536, 573, 574, 575, 576, 577, 578, 579, 580, 537, 538, 539, 540, 541, 542, 543, 544, 581, 582, 583, 584, 585, 586, 587, 588, 174, 175, 176, 177, 1486, 1487, 1488, 1489, 1490, 1491, 1492, 1493, 1494, 1495, 1496, 1497, 1498, 1499, 1500, 1501, 1502, 1503, 1504, 1505, 1506, 1507, 1508, 1509, 1510, 1511, 1512] (by decide +kernel) (by decide +kernel)
set_option maxRecDepth 20000 in
theorem gL_law_X8_codesIfEncoded : GoodIn wsL_law (wsV RL 240 RX8 yX8_codesIfEncoded wsX8_codesIfEncoded) := goodIn_app (goodIn_of _ (by decide +kernel)) ggL_law_X8_codesIfEncoded
set_option maxRecDepth 20000 in
theorem ggL_law_L_clearsIfEncoded : GoodIn wsL_law wsL_clearsIfEncoded := goodIn_ca (goodIn_r _ [1158, 185, 1159, 1160, 1161, 2, 1162, 18, 734, 735, 736, 737, 190, 191, 738, 739, 740, 741, 1135, 339, 340, 17, 341, 48, 47, 342, 343, 344, 46, 345, 58, 96, 56, 59, 229, 230, 346, 347, 348, 349, 90, 122, 121, 91, 350, 351, 352, 353, 102, 354, 355, 356, 357, 97, 358, 359, 360, 361, 362, 363, 364, 365, 366, 367, 57, 368, 369, 370, 371, 372, 373, 374, 375, 1475, 1476, 1477, 1478, 1479, 1480, 1481, 1482, 1483, 1484, 1485, 1513, 1514, 1515, 1516, 1517, 1518, 1519, 1520, 1521, 1522, 1523, 1524, 1525, 1526, 1548, 1549, 1550, 1551, 1552, 1553, 1554, 1555] (by decide +kernel) (by decide +kernel)) (goodIn_sub (fun _ h => List.mem_append_left _ (List.mem_append_left _ (List.mem_append_right _ h))) (by decide +kernel))
set_option maxRecDepth 20000 in
theorem gL_law_L_clearsIfEncoded : GoodIn wsL_law (va_wsS RL 241 yL_clearsIfEncoded wsL_clearsIfEncoded) := goodIn_app (goodIn_of _ (by decide +kernel)) ggL_law_L_clearsIfEncoded
set_option maxRecDepth 20000 in
theorem ggL_law_X8_clearsIfEncoded : GoodIn wsL_law wsX8_clearsIfEncoded := goodIn_r _ [1166, 506, 507, 508, 5, 509, 130, 196, 197, 198, 165, 166, 167, 168, 169, 1148, 1149, 1150, 1151, 1144, 1145, 1146, 1147, 518, 519, 520, 521, 522, 523, 524, 525, 1152, 1153, 1154, 1155, 549, 550, 551, 552, 553, 554, 555, 556, 561, 562, 563, 564, 565, 566, 567, 568, 569, 570, 571, 572, 534, 535, 536, 573, 574, 575, 576, 577, 578, 579, 580, 537, 538, 539, 540, 541, 542, 543, 544, 581, 582, 583, 584, 585, 586, 587, 588, 174, 175, 176, 177, 1486, 1487, 1488, 1489, 1490, 1491, 1492, 1493, 1494, 1495, 1496, 1497, 1498, 1499, 1500, 1501, 1502, 1503, 1504, 1505, 1506, 1507, 1508, 1509, 1510, 1511, 1512] (by decide +kernel) (by decide +kernel)
set_option maxRecDepth 20000 in
theorem gL_law_X8_clearsIfEncoded : GoodIn wsL_law (wsV RL 243 RX8 yX8_clearsIfEncoded wsX8_clearsIfEncoded) := goodIn_app (goodIn_of _ (by decide +kernel)) ggL_law_X8_clearsIfEncoded
set_option maxRecDepth 20000 in
theorem ggL_law_X7_encodedCount : GoodIn wsL_law wsX7_encodedCount := goodIn_r _ [1170, 18, 1475, 1476, 1477, 1478, 1479, 1480, 1481, 1482, 1483, 1484, 1485, 1513, 1514, 1515, 1516, 1517, 1518, 1519, 1520, 1521, 1522, 1523, 1524, 1525, 1526] (by decide +kernel) (by decide +kernel)
set_option maxRecDepth 20000 in
theorem gL_law_X7_encodedCount : GoodIn wsL_law (wsV RL 244 RX7 yX7_encodedCount wsX7_encodedCount) := goodIn_app (goodIn_of _ (by decide +kernel)) ggL_law_X7_encodedCount
set_option maxRecDepth 20000 in
theorem ggL_law_X8_encodedCount : GoodIn wsL_law wsX8_encodedCount := goodIn_r _ [1174, 130, 174, 175, 176, 5, 177, 169, 1486, 1487, 1488, 1489, 1490, 1491, 1492, 1493, 1494, 1495, 1496, 1497, 1498, 1499, 1500, 1501, 1502, 1503, 1504, 1505, 1506, 1507, 1508, 1509, 1510, 1511, 1512] (by decide +kernel) (by decide +kernel)
set_option maxRecDepth 20000 in
theorem gL_law_X8_encodedCount : GoodIn wsL_law (wsV RL 247 RX8 yX8_encodedCount wsX8_encodedCount) := goodIn_app (goodIn_of _ (by decide +kernel)) ggL_law_X8_encodedCount
set_option maxRecDepth 20000 in
theorem ggL_law_L_encodedSymbol : GoodIn wsL_law wsL_encodedSymbol := goodIn_ca (goodIn_r _ [1177, 986, 1178, 1179, 1180, 2, 1181, 18, 995, 996, 997, 998, 999, 333, 229, 230, 1475, 1476, 1477, 1478, 1479, 1480, 1481, 1482, 1483, 1484, 1485, 1513, 1514, 1515, 1516, 1517, 1518, 1519, 1520, 1521, 1522, 1523, 1524, 1525, 1526] (by decide +kernel) (by decide +kernel)) (goodIn_sub (fun _ h => List.mem_append_right _ h) (by decide +kernel))
set_option maxRecDepth 20000 in
theorem gL_law_L_encodedSymbol : GoodIn wsL_law (va_wsS RL 248 yL_encodedSymbol wsL_encodedSymbol) := goodIn_app (goodIn_of _ (by decide +kernel)) ggL_law_L_encodedSymbol
set_option maxRecDepth 20000 in
theorem ggL_law_X8_encodedSymbol : GoodIn wsL_law wsX8_encodedSymbol := goodIn_r _ [1185, 130, 196, 197, 5, 198, 165, 166, 167, 168, 169, 174, 175, 176, 177, 1486, 1487, 1488, 1489, 1490, 1491, 1492, 1493, 1494, 1495, 1496, 1497, 1498, 1499, 1500, 1501, 1502, 1503, 1504, 1505, 1506, 1507, 1508, 1509, 1510, 1511, 1512] (by decide +kernel) (by decide +kernel)
set_option maxRecDepth 20000 in
theorem gL_law_X8_encodedSymbol : GoodIn wsL_law (wsV RL 250 RX8 yX8_encodedSymbol wsX8_encodedSymbol) := goodIn_app (goodIn_of _ (by decide +kernel)) ggL_law_X8_encodedSymbol
set_option maxRecDepth 20000 in
theorem ggL_law_X7_writtenCount : GoodIn wsL_law wsX7_writtenCount := goodIn_r _ [1189, 18, 1475, 1476, 1477, 1478, 1479, 1480, 1481, 1482, 1483, 1484, 1485, 1513, 1514, 1515, 1516, 1517, 1518, 1519, 1520, 1521, 1522, 1523, 1524, 1525, 1526] (by decide +kernel) (by decide +kernel)
set_option maxRecDepth 20000 in
theorem gL_law_X7_writtenCount : GoodIn wsL_law (wsV RL 251 RX7 yX7_writtenCount wsX7_writtenCount) := goodIn_app (goodIn_of _ (by decide +kernel)) ggL_law_X7_writtenCount
set_option maxRecDepth 20000 in
theorem ggL_law_X8_writtenCount : GoodIn wsL_law wsX8_writtenCount := goodIn_r _ [1193, 130, 174, 175, 176, 5, 177, 169, 1486, 1487, 1488, 1489, 1490, 1491, 1492, 1493, 1494, 1495, 1496, 1497, 1498, 1499, 1500, 1501, 1502, 1503, 1504, 1505, 1506, 1507, 1508, 1509, 1510, 1511, 1512] (by decide +kernel) (by decide +kernel)
set_option maxRecDepth 20000 in
theorem gL_law_X8_writtenCount : GoodIn wsL_law (wsV RL 254 RX8 yX8_writtenCount wsX8_writtenCount) := goodIn_app (goodIn_of _ (by decide +kernel)) ggL_law_X8_writtenCount
set_option maxRecDepth 20000 in
theorem ggL_law_L_writtenCode : GoodIn wsL_law wsL_writtenCode := goodIn_ca (goodIn_r _ [1196, 986, 1197, 1198, 1199, 2, 1200, 18, 995, 996, 997, 998, 999, 333, 229, 230, 1475, 1476, 1477, 1478, 1479, 1480, 1481, 1482, 1483, 1484, 1485, 1513, 1514, 1515, 1516, 1517, 1518, 1519, 1520, 1521, 1522, 1523, 1524, 1525, 1526] (by decide +kernel) (by decide +kernel)) (goodIn_sub (fun _ h => List.mem_append_right _ h) (by decide +kernel))
set_option maxRecDepth 20000 in
theorem gL_law_L_writtenCode : GoodIn wsL_law (va_wsS RL 255 yL_writtenCode wsL_writtenCode) := goodIn_app (goodIn_of _ (by decide +kernel)) ggL_law_L_writtenCode
set_option maxRecDepth 20000 in
theorem ggL_law_X8_writtenCode : GoodIn wsL_law wsX8_writtenCode := goodIn_r _ [1204, 1205, 1206, 1207, 5, 1208, 130, 196, 197, 198, 165, 166, 167, 168, 169, 577, 578, 579, 580, 174, 175, 176, 177, 1486, 1487, 1488, 1489, 1490, 1491, 1492, 1493, 1494, 1495, 1496, 1497, 1498, 1499, 1500, 1501, 1502, 1503, 1504, 1505, 1506, 1507, 1508, 1509, 1510, 1511, 1512] (by decide +kernel) (by decide +kernel)
set_option maxRecDepth 20000 in
theorem gL_law_X8_writtenCode : GoodIn wsL_law (wsV RL 257 RX8 yX8_writtenCode wsX8_writtenCode) := goodIn_app (goodIn_of _ (by decide +kernel)) ggL_law_X8_writtenCode
set_option maxRecDepth 20000 in
theorem ggL_law_L_writtenWidth : GoodIn wsL_law wsL_writtenWidth := goodIn_ca (goodIn_r _ [1211, 986, 1212, 1213, 1214, 2, 1215, 18, 995, 996, 997, 998, 999, 333, 229, 230, 1475, 1476, 1477, 1478, 1479, 1480, 1481, 1482, 1483, 1484, 1485, 1513, 1514, 1515, 1516, 1517, 1518, 1519, 1520, 1521, 1522, 1523, 1524, 1525, 1526] (by decide +kernel) (by decide +kernel)) (goodIn_sub (fun _ h => List.mem_append_right _ h) (by decide +kernel))
set_option maxRecDepth 20000 in
theorem gL_law_L_writtenWidth : GoodIn wsL_law (va_wsS RL 258 yL_writtenWidth wsL_writtenWidth) := goodIn_app (goodIn_of _ (by decide +kernel)) ggL_law_L_writtenWidth
set_option maxRecDepth 20000 in
theorem ggL_law_X8_writtenWidth : GoodIn wsL_law wsX8_writtenWidth := goodIn_r _ [1219, 1205, 1206, 1207, 5, 1208, 130, 196, 197, 198, 165, 166, 167, 168, 169, 569, 570, 571, 572, 174, 175, 176, 177, 1486, 1487, 1488, 1489, 1490, 1491, 1492, 1493, 1494, 1495, 1496, 1497, 1498, 1499, 1500, 1501, 1502, 1503, 1504, 1505, 1506, 1507, 1508, 1509, 1510, 1511, 1512] (by decide +kernel) (by decide +kernel)
set_option maxRecDepth 20000 in
theorem gL_law_X8_writtenWidth : GoodIn wsL_law (wsV RL 260 RX8 yX8_writtenWidth wsX8_writtenWidth) := goodIn_app (goodIn_of _ (by decide +kernel)) ggL_law_X8_writtenWidth
set_option maxRecDepth 20000 in
theorem ggL_law_X7_bitCount : GoodIn wsL_law wsX7_bitCount := goodIn_r _ [1223, 18, 1475, 1476, 1477, 1478, 1479, 1480, 1481, 1482, 1483, 1484, 1485, 1513, 1514, 1515, 1516, 1517, 1518, 1519, 1520, 1521, 1522, 1523, 1524, 1525, 1526] (by decide +kernel) (by decide +kernel)
set_option maxRecDepth 20000 in
theorem gL_law_X7_bitCount : GoodIn wsL_law (wsV RL 261 RX7 yX7_bitCount wsX7_bitCount) := goodIn_app (goodIn_of _ (by decide +kernel)) ggL_law_X7_bitCount
set_option maxRecDepth 20000 in
theorem ggL_law_X8_bitCount : GoodIn wsL_law wsX8_bitCount := goodIn_r _ [1227, 1228, 1229, 1230, 5, 1231, 565, 566, 567, 568, 130, 569, 570, 571, 572, 174, 175, 176, 177, 169, 1486, 1487, 1488, 1489, 1490, 1491, 1492, 1493, 1494, 1495, 1496, 1497, 1498, 1499, 1500, 1501, 1502, 1503, 1504, 1505, 1506, 1507, 1508, 1509, 1510, 1511, 1512] (by decide +kernel) (by decide +kernel)
set_option maxRecDepth 20000 in
theorem gL_law_X8_bitCount : GoodIn wsL_law (wsV RL 264 RX8 yX8_bitCount wsX8_bitCount) := goodIn_app (goodIn_of _ (by decide +kernel)) ggL_law_X8_bitCount
set_option maxRecDepth 20000 in
theorem ggL_law_L_bitAt : GoodIn wsL_law wsL_bitAt := goodIn_ca (goodIn_r _ [1234, 986, 1235, 1236, 1237, 2, 1238, 18, 995, 996, 997, 998, 999, 1239, 1240, 1241, 17, 1242, 112, 51, 1243, 1244, 654, 1245, 50, 229, 230, 1475, 1476, 1477, 1478, 1479, 1480, 1481, 1482, 1483, 1484, 1485, 1513, 1514, 1515, 1516, 1517, 1518, 1519, 1520, 1521, 1522, 1523, 1524, 1525, 1526] (by decide +kernel) (by decide +kernel)) (goodIn_sub (fun _ h => List.mem_append_right _ h) (by decide +kernel))
set_option maxRecDepth 20000 in
theorem gL_law_L_bitAt : GoodIn wsL_law (va_wsS RL 265 yL_bitAt wsL_bitAt) := goodIn_app (goodIn_of _ (by decide +kernel)) ggL_law_L_bitAt
set_option maxRecDepth 20000 in
theorem ggL_law_X8_bitAt : GoodIn wsL_law wsX8_bitAt := goodIn_r _ [1249, 1228, 1229, 1230, 5, 1231, 565, 566, 567, 568, 130, 569, 570, 571, 572, 196, 197, 198, 165, 166, 167, 168, 169, 1250, 1251, 1252, 1253, 577, 578, 579, 580, 174, 175, 176, 177, 1486, 1487, 1488, 1489, 1490, 1491, 1492, 1493, 1494, 1495, 1496, 1497, 1498, 1499, 1500, 1501, 1502, 1503, 1504, 1505, 1506, 1507, 1508, 1509, 1510, 1511, 1512] (by decide +kernel) (by decide +kernel)
set_option maxRecDepth 20000 in
theorem gL_law_X8_bitAt : GoodIn wsL_law (wsV RL 267 RX8 yX8_bitAt wsX8_bitAt) := goodIn_app (goodIn_of _ (by decide +kernel)) ggL_law_X8_bitAt
set_option maxRecDepth 20000 in
theorem ggL_law_X7_byteCount : GoodIn wsL_law wsX7_byteCount := goodIn_r _ [1257, 18, 1475, 1476, 1477, 1478, 1479, 1480, 1481, 1482, 1483, 1484, 1485, 1513, 1514, 1515, 1516, 1517, 1518, 1519, 1520, 1521, 1522, 1523, 1524, 1525, 1526] (by decide +kernel) (by decide +kernel)
set_option maxRecDepth 20000 in
theorem gL_law_X7_byteCount : GoodIn wsL_law (wsV RL 268 RX7 yX7_byteCount wsX7_byteCount) := goodIn_app (goodIn_of _ (by decide +kernel)) ggL_law_X7_byteCount
set_option maxRecDepth 20000 in
theorem ggL_law_X8_byteCount : GoodIn wsL_law wsX8_byteCount := goodIn_r _ [1261, 1262, 1263, 1264, 5, 1265, 1228, 1229, 1230, 1231, 565, 566, 567, 568, 130, 569, 570, 571, 572, 174, 175, 176, 177, 169, 1486, 1487, 1488, 1489, 1490, 1491, 1492, 1493, 1494, 1495, 1496, 1497, 1498, 1499, 1500, 1501, 1502, 1503, 1504, 1505, 1506, 1507, 1508, 1509, 1510, 1511, 1512] (by decide +kernel) (by decide +kernel)
set_option maxRecDepth 20000 in
theorem gL_law_X8_byteCount : GoodIn wsL_law (wsV RL 271 RX8 yX8_byteCount wsX8_byteCount) := goodIn_app (goodIn_of _ (by decide +kernel)) ggL_law_X8_byteCount
set_option maxRecDepth 20000 in
theorem ggL_law_L_byteAt : GoodIn wsL_law wsL_byteAt := goodIn_ca (goodIn_r _ [1268, 986, 1269, 1270, 1271, 2, 1272, 18, 1273, 1255, 1256, 1257, 995, 996, 997, 998, 999, 1239, 1240, 1241, 17, 1242, 112, 51, 1243, 1244, 654, 1245, 50, 229, 230, 1475, 1476, 1477, 1478, 1479, 1480, 1481, 1482, 1483, 1484, 1485, 1513, 1514, 1515, 1516, 1517, 1518, 1519, 1520, 1521, 1522, 1523, 1524, 1525, 1526] (by decide +kernel) (by decide +kernel)) (goodIn_sub (fun _ h => List.mem_append_right _ h) (by decide +kernel))
set_option maxRecDepth 20000 in
theorem gL_law_L_byteAt : GoodIn wsL_law (va_wsS RL 272 yL_byteAt wsL_byteAt) := goodIn_app (goodIn_of _ (by decide +kernel)) ggL_law_L_byteAt
set_option maxRecDepth 20000 in
theorem ggL_law_X8_byteAt : GoodIn wsL_law wsX8_byteAt := goodIn_r _ [1277, 1262, 1263, 1264, 5, 1265, 1228, 1229, 1230, 1231, 565, 566, 567, 568, 130, 569, 570, 571, 572, 196, 197, 198, 165, 166, 167, 168, 169, 1250, 1251, 1252, 1253, 577, 578, 579, 580, 174, 175, 176, 177, 1486, 1487, 1488, 1489, 1490, 1491, 1492, 1493, 1494, 1495, 1496, 1497, 1498, 1499, 1500, 1501, 1502, 1503, 1504, 1505, 1506, 1507, 1508, 1509, 1510, 1511, 1512] (by decide +kernel) (by decide +kernel)
set_option maxRecDepth 20000 in
theorem gL_law_X8_byteAt : GoodIn wsL_law (wsV RL 274 RX8 yX8_byteAt wsX8_byteAt) := goodIn_app (goodIn_of _ (by decide +kernel)) ggL_law_X8_byteAt
set_option maxRecDepth 20000 in
theorem ggL_law_X7_clearCount : GoodIn wsL_law wsX7_clearCount := goodIn_r _ [1281, 18, 1475, 1476, 1477, 1478, 1479, 1480, 1481, 1482, 1483, 1484, 1485, 1513, 1514, 1515, 1516, 1517, 1518, 1519, 1520, 1521, 1522, 1523, 1524, 1525, 1526] (by decide +kernel) (by decide +kernel)
set_option maxRecDepth 20000 in
theorem gL_law_X7_clearCount : GoodIn wsL_law (wsV RL 275 RX7 yX7_clearCount wsX7_clearCount) := goodIn_app (goodIn_of _ (by decide +kernel)) ggL_law_X7_clearCount
set_option maxRecDepth 20000 in
theorem ggL_law_X8_clearCount : GoodIn wsL_law wsX8_clearCount := goodIn_r _ [1285, 130, 174, 175, 176, 5, 177, 169, 1486, 1487, 1488, 1489, 1490, 1491, 1492, 1493, 1494, 1495, 1496, 1497, 1498, 1499, 1500, 1501, 1502, 1503, 1504, 1505, 1506, 1507, 1508, 1509, 1510, 1511, 1512] (by decide +kernel) (by decide +kernel)
set_option maxRecDepth 20000 in
theorem gL_law_X8_clearCount : GoodIn wsL_law (wsV RL 278 RX8 yX8_clearCount wsX8_clearCount) := goodIn_app (goodIn_of _ (by decide +kernel)) ggL_law_X8_clearCount
set_option maxRecDepth 20000 in
theorem ggL_law_X7_codesSinceClear : GoodIn wsL_law wsX7_codesSinceClear := goodIn_r _ [1289, 18, 1475, 1476, 1477, 1478, 1479, 1480, 1481, 1482, 1483, 1484, 1485, 1513, 1514, 1515, 1516, 1517, 1518, 1519, 1520, 1521, 1522, 1523, 1524, 1525, 1526] (by decide +kernel) (by decide +kernel)
set_option maxRecDepth 20000 in
theorem gL_law_X7_codesSinceClear : GoodIn wsL_law (wsV RL 279 RX7 yX7_codesSinceClear wsX7_codesSinceClear) := goodIn_app (goodIn_of _ (by decide +kernel)) ggL_law_X7_codesSinceClear
set_option maxRecDepth 20000 in
theorem ggL_law_X8_codesSinceClear : GoodIn wsL_law wsX8_codesSinceClear := goodIn_r _ [1293, 130, 174, 175, 176, 5, 177, 169, 1486, 1487, 1488, 1489, 1490, 1491, 1492, 1493, 1494, 1495, 1496, 1497, 1498, 1499, 1500, 1501, 1502, 1503, 1504, 1505, 1506, 1507, 1508, 1509, 1510, 1511, 1512] (by decide +kernel) (by decide +kernel)
set_option maxRecDepth 20000 in
theorem gL_law_X8_codesSinceClear : GoodIn wsL_law (wsV RL 282 RX8 yX8_codesSinceClear wsX8_codesSinceClear) := goodIn_app (goodIn_of _ (by decide +kernel)) ggL_law_X8_codesSinceClear
set_option maxRecDepth 20000 in
theorem ggL_law_X7_symbolsSinceClear : GoodIn wsL_law wsX7_symbolsSinceClear := goodIn_r _ [1297, 18, 1475, 1476, 1477, 1478, 1479, 1480, 1481, 1482, 1483, 1484, 1485, 1513, 1514, 1515, 1516, 1517, 1518, 1519, 1520, 1521, 1522, 1523, 1524, 1525, 1526] (by decide +kernel) (by decide +kernel)
set_option maxRecDepth 20000 in
theorem gL_law_X7_symbolsSinceClear : GoodIn wsL_law (wsV RL 283 RX7 yX7_symbolsSinceClear wsX7_symbolsSinceClear) := goodIn_app (goodIn_of _ (by decide +kernel)) ggL_law_X7_symbolsSinceClear
set_option maxRecDepth 20000 in
theorem ggL_law_X8_symbolsSinceClear : GoodIn wsL_law wsX8_symbolsSinceClear := goodIn_r _ [1301, 573, 574, 575, 5, 576, 130, 577, 578, 579, 580, 537, 538, 539, 540, 522, 523, 524, 525, 541, 542, 543, 544, 174, 175, 176, 177, 169, 1486, 1487, 1488, 1489, 1490, 1491, 1492, 1493, 1494, 1495, 1496, 1497, 1498, 1499, 1500, 1501, 1502, 1503, 1504, 1505, 1506, 1507, 1508, 1509, 1510, 1511, 1512] (by decide +kernel) (by decide +kernel)
set_option maxRecDepth 20000 in
theorem gL_law_X8_symbolsSinceClear : GoodIn wsL_law (wsV RL 286 RX8 yX8_symbolsSinceClear wsX8_symbolsSinceClear) := goodIn_app (goodIn_of _ (by decide +kernel)) ggL_law_X8_symbolsSinceClear
set_option maxRecDepth 20000 in
theorem ggL_law_X7_bitsSinceClear : GoodIn wsL_law wsX7_bitsSinceClear := goodIn_r _ [1305, 18, 1475, 1476, 1477, 1478, 1479, 1480, 1481, 1482, 1483, 1484, 1485, 1513, 1514, 1515, 1516, 1517, 1518, 1519, 1520, 1521, 1522, 1523, 1524, 1525, 1526] (by decide +kernel) (by decide +kernel)
set_option maxRecDepth 20000 in
theorem gL_law_X7_bitsSinceClear : GoodIn wsL_law (wsV RL 287 RX7 yX7_bitsSinceClear wsX7_bitsSinceClear) := goodIn_app (goodIn_of _ (by decide +kernel)) ggL_law_X7_bitsSinceClear
set_option maxRecDepth 20000 in
theorem ggL_law_X8_bitsSinceClear : GoodIn wsL_law wsX8_bitsSinceClear := goodIn_r _ [1309, 561, 562, 563, 5, 564, 130, 565, 566, 567, 568, 569, 570, 571, 572, 174, 175, 176, 177, 169, 1486, 1487, 1488, 1489, 1490, 1491, 1492, 1493, 1494, 1495, 1496, 1497, 1498, 1499, 1500, 1501, 1502, 1503, 1504, 1505, 1506, 1507, 1508, 1509, 1510, 1511, 1512] (by decide +kernel) (by decide +kernel)
set_option maxRecDepth 20000 in
theorem gL_law_X8_bitsSinceClear : GoodIn wsL_law (wsV RL 290 RX8 yX8_bitsSinceClear wsX8_bitsSinceClear) := goodIn_app (goodIn_of _ (by decide +kernel)) ggL_law_X8_bitsSinceClear
set_option maxRecDepth 20000 in
theorem ggL_law_X7_percentSinceClear : GoodIn wsL_law wsX7_percentSinceClear := goodIn_r _ [1313, 18, 1314, 369, 370, 17, 371, 47, 372, 373, 374, 46, 375, 96, 362, 2, 363, 1475, 1476, 1477, 1478, 1479, 1480, 1481, 1482, 1483, 1484, 1485, 1513, 1514, 1515, 1516, 1517, 1518, 1519, 1520, 1521, 1522, 1523, 1524, 1525, 1526, 1548, 1549, 1550, 1551, 1552, 1553, 1554, 1555] (by decide +kernel) (by decide +kernel)
set_option maxRecDepth 20000 in
theorem gL_law_X7_percentSinceClear : GoodIn wsL_law (wsV RL 291 RX7 yX7_percentSinceClear wsX7_percentSinceClear) := goodIn_app (goodIn_of _ (by decide +kernel)) ggL_law_X7_percentSinceClear
set_option maxRecDepth 20000 in
theorem ggL_law_X8_percentSinceClear : GoodIn wsL_law wsX8_percentSinceClear := goodIn_r _ [1318, 557, 558, 559, 5, 560, 561, 562, 563, 564, 130, 565, 566, 567, 568, 569, 570, 571, 572, 573, 574, 575, 576, 577, 578, 579, 580, 537, 538, 539, 540, 522, 523, 524, 525, 541, 542, 543, 544, 581, 582, 583, 584, 585, 586, 587, 588, 534, 535, 536, 174, 175, 176, 177, 169, 1486, 1487, 1488, 1489, 1490, 1491, 1492, 1493, 1494, 1495, 1496, 1497, 1498, 1499, 1500, 1501, 1502, 1503, 1504, 1505, 1506, 1507, 1508, 1509, 1510, 1511, 1512] (by decide +kernel) (by decide +kernel)
set_option maxRecDepth 20000 in
theorem gL_law_X8_percentSinceClear : GoodIn wsL_law (wsV RL 294 RX8 yX8_percentSinceClear wsX8_percentSinceClear) := goodIn_app (goodIn_of _ (by decide +kernel)) ggL_law_X8_percentSinceClear
set_option maxRecDepth 20000 in
theorem ggL_law_X7_savedBits : GoodIn wsL_law wsX7_savedBits := goodIn_r _ [1322, 18, 1323, 1324, 1325, 17, 1326, 48, 111, 47, 364, 365, 366, 46, 367, 57, 229, 2, 230, 931, 373, 374, 375, 96, 362, 363, 1475, 1476, 1477, 1478, 1479, 1480, 1481, 1482, 1483, 1484, 1485, 1513, 1514, 1515, 1516, 1517, 1518, 1519, 1520, 1521, 1522, 1523, 1524, 1525, 1526, 1548, 1549, 1550, 1551, 1552, 1553, 1554, 1555] (by decide +kernel) (by decide +kernel)
set_option maxRecDepth 20000 in
theorem gL_law_X7_savedBits : GoodIn wsL_law (wsV RL 295 RX7 yX7_savedBits wsX7_savedBits) := goodIn_app (goodIn_of _ (by decide +kernel)) ggL_law_X7_savedBits
set_option maxRecDepth 20000 in
theorem ggL_law_X8_savedBits : GoodIn wsL_law wsX8_savedBits := goodIn_r _ [1330, 130, 585, 586, 587, 5, 588, 534, 535, 536, 1228, 1229, 1230, 1231, 565, 566, 567, 568, 569, 570, 571, 572, 174, 175, 176, 177, 169, 1486, 1487, 1488, 1489, 1490, 1491, 1492, 1493, 1494, 1495, 1496, 1497, 1498, 1499, 1500, 1501, 1502, 1503, 1504, 1505, 1506, 1507, 1508, 1509, 1510, 1511, 1512] (by decide +kernel) (by decide +kernel)
set_option maxRecDepth 20000 in
theorem gL_law_X8_savedBits : GoodIn wsL_law (wsV RL 298 RX8 yX8_savedBits wsX8_savedBits) := goodIn_app (goodIn_of _ (by decide +kernel)) ggL_law_X8_savedBits
set_option maxRecDepth 20000 in
theorem ggL_law_X7_bitsPerSymbol : GoodIn wsL_law wsX7_bitsPerSymbol := goodIn_r _ [1334, 18, 1323, 1324, 1325, 17, 1326, 48, 111, 47, 364, 365, 366, 46, 367, 57, 229, 2, 230, 1475, 1476, 1477, 1478, 1479, 1480, 1481, 1482, 1483, 1484, 1485, 1513, 1514, 1515, 1516, 1517, 1518, 1519, 1520, 1521, 1522, 1523, 1524, 1525, 1526, 1548, 1549, 1550, 1551, 1552, 1553, 1554, 1555] (by decide +kernel) (by decide +kernel)
set_option maxRecDepth 20000 in
theorem gL_law_X7_bitsPerSymbol : GoodIn wsL_law (wsV RL 299 RX7 yX7_bitsPerSymbol wsX7_bitsPerSymbol) := goodIn_app (goodIn_of _ (by decide +kernel)) ggL_law_X7_bitsPerSymbol
set_option maxRecDepth 20000 in
theorem ggL_law_X8_bitsPerSymbol : GoodIn wsL_law wsX8_bitsPerSymbol := goodIn_r _ [1338, 169, 130, 1228, 1229, 1230, 5, 1231, 565, 566, 567, 568, 569, 570, 571, 572, 1486, 1487, 1488, 1489, 1490, 1491, 1492, 1493, 1494, 1495, 1496, 1497, 1498, 1499, 1500, 1501, 1502, 1503, 1504, 1505, 1506, 1507, 1508, 1509, 1510, 1511, 1512] (by decide +kernel) (by decide +kernel)
set_option maxRecDepth 20000 in
theorem gL_law_X8_bitsPerSymbol : GoodIn wsL_law (wsV RL 303 RX8 yX8_bitsPerSymbol wsX8_bitsPerSymbol) := goodIn_app (goodIn_of _ (by decide +kernel)) ggL_law_X8_bitsPerSymbol
set_option maxRecDepth 20000 in
theorem ggL_law_X7_fillShare : GoodIn wsL_law wsX7_fillShare := goodIn_r _ [1342, 18, 956, 355, 356, 46, 357, 97, 1475, 1476, 1477, 1478, 1479, 1480, 1481, 1482, 1483, 1484, 1485, 1513, 1514, 1515, 1516, 1517, 1518, 1519, 1520, 1521, 1522, 1523, 1524, 1525, 1526, 1548, 1549, 1550, 1551, 1552, 1553, 1554, 1555] (by decide +kernel) (by decide +kernel)
set_option maxRecDepth 20000 in
theorem gL_law_X7_fillShare : GoodIn wsL_law (wsV RL 304 RX7 yX7_fillShare wsX7_fillShare) := goodIn_app (goodIn_of _ (by decide +kernel)) ggL_law_X7_fillShare
set_option maxRecDepth 20000 in
theorem ggL_law_X8_fillShare : GoodIn wsL_law wsX8_fillShare := goodIn_r _ [1346, 169, 130, 553, 554, 555, 5, 556, 1486, 1487, 1488, 1489, 1490, 1491, 1492, 1493, 1494, 1495, 1496, 1497, 1498, 1499, 1500, 1501, 1502, 1503, 1504, 1505, 1506, 1507, 1508, 1509, 1510, 1511, 1512] (by decide +kernel) (by decide +kernel)
set_option maxRecDepth 20000 in
theorem gL_law_X8_fillShare : GoodIn wsL_law (wsV RL 308 RX8 yX8_fillShare wsX8_fillShare) := goodIn_app (goodIn_of _ (by decide +kernel)) ggL_law_X8_fillShare
set_option maxRecDepth 20000 in
theorem ggL_law_X7_decodedCount : GoodIn wsL_law wsX7_decodedCount := goodIn_r _ [1350, 206, 1475, 1476, 1477, 1478, 1479, 1480, 1481, 1482, 1483, 1484, 1485] (by decide +kernel) (by decide +kernel)
set_option maxRecDepth 20000 in
theorem gL_law_X7_decodedCount : GoodIn wsL_law (wsV RL 309 RX7 yX7_decodedCount wsX7_decodedCount) := goodIn_app (goodIn_of _ (by decide +kernel)) ggL_law_X7_decodedCount
set_option maxRecDepth 20000 in
theorem ggL_law_X8_decodedCount : GoodIn wsL_law wsX8_decodedCount := goodIn_r _ [1354, 410, 174, 175, 176, 5, 177, 169, 1486, 1487, 1488, 1489, 1490, 1491, 1492, 1493, 1494, 1495, 1496, 1497, 1498, 1499, 1500, 1501, 1502, 1503, 1504, 1505, 1506, 1507, 1508, 1509, 1510, 1511, 1512] (by decide +kernel) (by decide +kernel)
set_option maxRecDepth 20000 in
theorem gL_law_X8_decodedCount : GoodIn wsL_law (wsV RL 312 RX8 yX8_decodedCount wsX8_decodedCount) := goodIn_app (goodIn_of _ (by decide +kernel)) ggL_law_X8_decodedCount
set_option maxRecDepth 20000 in
theorem ggL_law_L_decodedSymbol : GoodIn wsL_law wsL_decodedSymbol := goodIn_ca (goodIn_r _ [1357, 986, 1358, 1359, 1360, 2, 1361, 206, 23, 995, 996, 997, 998, 999, 333, 229, 230, 1475, 1476, 1477, 1478, 1479, 1480, 1481, 1482, 1483, 1484, 1485] (by decide +kernel) (by decide +kernel)) (goodIn_sub (fun _ h => List.mem_append_right _ h) (by decide +kernel))
set_option maxRecDepth 20000 in
theorem gL_law_L_decodedSymbol : GoodIn wsL_law (va_wsS RL 313 yL_decodedSymbol wsL_decodedSymbol) := goodIn_app (goodIn_of _ (by decide +kernel)) ggL_law_L_decodedSymbol
set_option maxRecDepth 20000 in
theorem ggL_law_X8_decodedSymbol : GoodIn wsL_law wsX8_decodedSymbol := goodIn_r _ [1365, 410, 139, 196, 197, 5, 198, 165, 166, 167, 168, 169, 174, 175, 176, 177, 1486, 1487, 1488, 1489, 1490, 1491, 1492, 1493, 1494, 1495, 1496, 1497, 1498, 1499, 1500, 1501, 1502, 1503, 1504, 1505, 1506, 1507, 1508, 1509, 1510, 1511, 1512] (by decide +kernel) (by decide +kernel)
set_option maxRecDepth 20000 in
theorem gL_law_X8_decodedSymbol : GoodIn wsL_law (wsV RL 315 RX8 yX8_decodedSymbol wsX8_decodedSymbol) := goodIn_app (goodIn_of _ (by decide +kernel)) ggL_law_X8_decodedSymbol
set_option maxRecDepth 20000 in
theorem ggL_law_X7_longestDecodedRun : GoodIn wsL_law wsX7_longestDecodedRun := goodIn_r _ [1369, 206, 23, 1370, 1244, 654, 1245, 333, 229, 2, 230, 1475, 1476, 1477, 1478, 1479, 1480, 1481, 1482, 1483, 1484, 1485] (by decide +kernel) (by decide +kernel)
set_option maxRecDepth 20000 in
theorem gL_law_X7_longestDecodedRun : GoodIn wsL_law (wsV RL 316 RX7 yX7_longestDecodedRun wsX7_longestDecodedRun) := goodIn_app (goodIn_of _ (by decide +kernel)) ggL_law_X7_longestDecodedRun
set_option maxRecDepth 20000 in
theorem ggL_law_X8_longestDecodedRun : GoodIn wsL_law wsX8_longestDecodedRun := goodIn_r _ [1374, 410, 139, 463, 464, 5, 465, 174, 175, 176, 177, 169, 1486, 1487, 1488, 1489, 1490, 1491, 1492, 1493, 1494, 1495, 1496, 1497, 1498, 1499, 1500, 1501, 1502, 1503, 1504, 1505, 1506, 1507, 1508, 1509, 1510, 1511, 1512] (by decide +kernel) (by decide +kernel)
set_option maxRecDepth 20000 in
theorem gL_law_X8_longestDecodedRun : GoodIn wsL_law (wsV RL 319 RX8 yX8_longestDecodedRun wsX8_longestDecodedRun) := goodIn_app (goodIn_of _ (by decide +kernel)) ggL_law_X8_longestDecodedRun
set_option maxRecDepth 20000 in
theorem ggL_law_X7_restoredCount : GoodIn wsL_law wsX7_restoredCount := goodIn_r _ [1378, 27, 18, 608, 609, 610, 26, 611, 70, 71, 612, 613, 93, 94, 46, 95, 96, 97, 98, 99, 100, 101, 102, 103, 104, 105, 106, 55, 56, 57, 58, 1379, 1380, 1381, 1382, 229, 2, 230, 620, 621, 622, 623, 624, 625, 626, 627, 628, 629, 630, 631, 632, 72, 633, 365, 366, 367, 634, 635, 636, 637, 396, 638, 639, 640, 641, 642, 343, 344, 345, 59, 643, 351, 352, 353, 354, 355, 356, 357, 644, 393, 394, 395, 158, 159, 645, 646, 647, 648, 1475, 1476, 1477, 1478, 1479, 1480, 1481, 1482, 1483, 1484, 1485, 1513, 1514, 1515, 1516, 1517, 1518, 1519, 1520, 1521, 1522, 1523, 1524, 1525, 1526, 1531, 1532, 1533, 1534, 1548, 1549, 1550, 1551, 1552, 1553, 1554, 1555] (by decide +kernel) (by decide +kernel)
set_option maxRecDepth 20000 in
theorem gL_law_X7_restoredCount : GoodIn wsL_law (wsV RL 320 RX7 yX7_restoredCount wsX7_restoredCount) := goodIn_app (goodIn_of _ (by decide +kernel)) ggL_law_X7_restoredCount
set_option maxRecDepth 20000 in
theorem ggL_law_X8_restoredCount : GoodIn wsL_law wsX8_restoredCount := goodIn_r _ [1386, 670, 1387, 1388, 1389, 5, 1390, 130, 664, 665, 666, 667, 668, 669, 671, 672, 673, 674, 522, 523, 524, 525, 675, 676, 677, 678, 196, 197, 198, 679, 680, 681, 682, 683, 684, 685, 686, 553, 554, 555, 556, 687, 688, 689, 690, 691, 692, 693, 694, 136, 541, 542, 543, 544, 695, 696, 697, 698, 699, 700, 701, 702, 703, 704, 705, 706, 137, 707, 708, 709, 710, 711, 712, 713, 714, 138, 174, 175, 176, 177, 169, 1486, 1487, 1488, 1489, 1490, 1491, 1492, 1493, 1494, 1495, 1496, 1497, 1498, 1499, 1500, 1501, 1502, 1503, 1504, 1505, 1506, 1507, 1508, 1509, 1510, 1511, 1512] (by decide +kernel) (by decide +kernel)
set_option maxRecDepth 20000 in
theorem gL_law_X8_restoredCount : GoodIn wsL_law (wsV RL 323 RX8 yX8_restoredCount wsX8_restoredCount) := goodIn_app (goodIn_of _ (by decide +kernel)) ggL_law_X8_restoredCount
set_option maxRecDepth 20000 in
theorem ggL_law_X7_isRestored : GoodIn wsL_law wsX7_isRestored := goodIn_r _ [1394, 27, 18, 608, 609, 610, 26, 611, 70, 71, 612, 613, 93, 94, 46, 95, 96, 97, 98, 99, 100, 101, 102, 103, 104, 105, 106, 55, 56, 57, 58, 1379, 1380, 1381, 1382, 229, 2, 230, 620, 621, 622, 623, 624, 625, 626, 627, 628, 629, 630, 631, 632, 72, 633, 365, 366, 367, 634, 635, 636, 637, 396, 638, 639, 640, 641, 642, 343, 344, 345, 59, 643, 351, 352, 353, 354, 355, 356, 357, 644, 393, 394, 395, 158, 159, 645, 646, 647, 648, 1323, 1324, 1325, 17, 1326, 48, 111, 47, 364, 333, 1475, 1476, 1477, 1478, 1479, 1480, 1481, 1482, 1483, 1484, 1485, 1513, 1514, 1515, 1516, 1517, 1518, 1519, 1520, 1521, 1522, 1523, 1524, 1525, 1526, 1531, 1532, 1533, 1534, 1548, 1549, 1550, 1551, 1552, 1553, 1554, 1555] (by decide +kernel) (by decide +kernel)
set_option maxRecDepth 20000 in
theorem gL_law_X7_isRestored : GoodIn wsL_law (wsV RL 324 RX7 yX7_isRestored wsX7_isRestored) := goodIn_app (goodIn_of _ (by decide +kernel)) ggL_law_X7_isRestored
set_option maxRecDepth 20000 in
theorem ggL_law_X8_isRestored : GoodIn wsL_law wsX8_isRestored := goodIn_r _ [1398, 670, 130, 1387, 1388, 1389, 5, 1390, 664, 665, 666, 667, 668, 669, 671, 672, 673, 674, 522, 523, 524, 525, 675, 676, 677, 678, 196, 197, 198, 679, 680, 681, 682, 683, 684, 685, 686, 553, 554, 555, 556, 687, 688, 689, 690, 691, 692, 693, 694, 136, 541, 542, 543, 544, 695, 696, 697, 698, 699, 700, 701, 702, 703, 704, 705, 706, 137, 707, 708, 709, 710, 711, 712, 713, 714, 138, 970, 971, 972, 973, 169, 1399, 1400, 1401, 1402, 1486, 1487, 1488, 1489, 1490, 1491, 1492, 1493, 1494, 1495, 1496, 1497, 1498, 1499, 1500, 1501, 1502, 1503, 1504, 1505, 1506, 1507, 1508, 1509, 1510, 1511, 1512] (by decide +kernel) (by decide +kernel)
set_option maxRecDepth 20000 in
theorem gL_law_X8_isRestored : GoodIn wsL_law (wsV RL 327 RX8 yX8_isRestored wsX8_isRestored) := goodIn_app (goodIn_of _ (by decide +kernel)) ggL_law_X8_isRestored
set_option maxRecDepth 20000 in
theorem ggL_law_X7_setupLength : GoodIn wsL_law wsX7_setupLength := goodIn_r _ [1406, 39, 18, 1407, 1408, 1409, 38, 1410, 1411, 1412, 1413, 1414, 1415, 1416, 253, 254, 255, 256, 257, 258, 259, 260, 261, 262, 263, 1417, 265, 266, 267, 268, 269, 270, 271, 272, 273, 274, 275, 276, 277, 278, 279, 280, 281, 282, 283, 284, 285, 286, 287, 288, 289, 290, 291, 292, 293, 294, 295, 296, 297, 298, 299, 300, 1418, 1419, 1420, 1421, 85, 158, 2, 159, 1422, 1423, 1424, 1425, 319, 320, 1426, 1427, 1428, 1429, 229, 230, 1475, 1476, 1477, 1478, 1479, 1480, 1481, 1482, 1483, 1484, 1485, 1546, 1547, 1513, 1514, 1515, 1516, 1517, 1518, 1519, 1520, 1521, 1522, 1523, 1524, 1525, 1526, 1548, 1549, 1550, 1551, 1552, 1553, 1554, 1555] (by decide +kernel) (by decide +kernel)
set_option maxRecDepth 20000 in
theorem gL_law_X7_setupLength : GoodIn wsL_law (wsV RL 328 RX7 yX7_setupLength wsX7_setupLength) := goodIn_app (goodIn_of _ (by decide +kernel)) ggL_law_X7_setupLength
set_option maxRecDepth 20000 in
theorem ggL_law_X8_setupLength : GoodIn wsL_law wsX8_setupLength := goodIn_r _ [1433, 1434, 1435, 1436, 1437, 5, 1438, 130, 1439, 1440, 1441, 1442, 446, 1443, 1444, 1445, 1446, 1447, 1448, 1449, 1450, 1451, 140, 1452, 1453, 1454, 1455, 1456, 1457, 1458, 1459, 474, 475, 476, 1460, 1461, 1462, 1463, 493, 174, 175, 176, 177, 169, 1486, 1487, 1488, 1489, 1490, 1491, 1492, 1493, 1494, 1495, 1496, 1497, 1498, 1499, 1500, 1501, 1502, 1503, 1504, 1505, 1506, 1507, 1508, 1509, 1510, 1511, 1512] (by decide +kernel) (by decide +kernel)
set_option maxRecDepth 20000 in
theorem gL_law_X8_setupLength : GoodIn wsL_law (wsV RL 331 RX8 yX8_setupLength wsX8_setupLength) := goodIn_app (goodIn_of _ (by decide +kernel)) ggL_law_X8_setupLength
set_option maxRecDepth 20000 in
theorem ggL_law_L_setupByte : GoodIn wsL_law wsL_setupByte := goodIn_ca (goodIn_r _ [1466, 986, 1467, 1468, 1469, 2, 1470, 39, 18, 1407, 1408, 1409, 38, 1410, 1411, 1412, 1413, 1414, 1415, 1416, 253, 254, 255, 256, 257, 258, 259, 260, 261, 262, 263, 1417, 265, 266, 267, 268, 269, 270, 271, 272, 273, 274, 275, 276, 277, 278, 279, 280, 281, 282, 283, 284, 285, 286, 287, 288, 289, 290, 291, 292, 293, 294, 295, 296, 297, 298, 299, 300, 1418, 1419, 1420, 1421, 85, 158, 159, 1422, 1423, 1424, 1425, 319, 320, 1426, 1427, 1428, 1429, 229, 230, 995, 996, 997, 998, 999, 333, 1475, 1476, 1477, 1478, 1479, 1480, 1481, 1482, 1483, 1484, 1485, 1546, 1547, 1513, 1514, 1515, 1516, 1517, 1518, 1519, 1520, 1521, 1522, 1523, 1524, 1525, 1526, 1548, 1549, 1550, 1551, 1552, 1553, 1554, 1555] (by decide +kernel) (by decide +kernel)) (goodIn_sub (fun _ h => List.mem_append_right _ h) (by decide +kernel))
set_option maxRecDepth 20000 in
theorem gL_law_L_setupByte : GoodIn wsL_law (va_wsS RL 332 yL_setupByte wsL_setupByte) := goodIn_app (goodIn_of _ (by decide +kernel)) ggL_law_L_setupByte
set_option maxRecDepth 20000 in
theorem ggL_law_X8_setupByte : GoodIn wsL_law wsX8_setupByte := goodIn_r _ [1474, 1434, 140, 1435, 1436, 1437, 5, 1438, 130, 1439, 1440, 1441, 1442, 446, 1443, 1444, 1445, 1446, 1447, 1448, 1449, 1450, 1451, 1452, 1453, 1454, 1455, 1456, 1457, 1458, 1459, 474, 475, 476, 1460, 1461, 1462, 1463, 493, 196, 197, 198, 165, 166, 167, 168, 169, 174, 175, 176, 177, 1486, 1487, 1488, 1489, 1490, 1491, 1492, 1493, 1494, 1495, 1496, 1497, 1498, 1499, 1500, 1501, 1502, 1503, 1504, 1505, 1506, 1507, 1508, 1509, 1510, 1511, 1512] (by decide +kernel) (by decide +kernel)
set_option maxRecDepth 20000 in
theorem gL_law_X8_setupByte : GoodIn wsL_law (wsV RL 334 RX8 yX8_setupByte wsX8_setupByte) := goodIn_app (goodIn_of _ (by decide +kernel)) ggL_law_X8_setupByte
theorem dL_law_0 : decode cL_law 0 = .ok (.new 8, 3) := by decide +kernel
theorem dL_law_3 : decode cL_law 3 = .ok (.dup, 1) := by decide +kernel
theorem dL_law_4 : decode cL_law 4 = .ok (.invokespecial 106, 3) := by decide +kernel
theorem dL_law_7 : decode cL_law 7 = .ok (.astore_n 1, 1) := by decide +kernel
theorem dL_law_8 : decode cL_law 8 = .ok (.new 107, 3) := by decide +kernel
theorem dL_law_11 : decode cL_law 11 = .ok (.dup, 1) := by decide +kernel
theorem dL_law_12 : decode cL_law 12 = .ok (.invokespecial 109, 3) := by decide +kernel
theorem dL_law_15 : decode cL_law 15 = .ok (.astore_n 2, 1) := by decide +kernel
theorem dL_law_16 : decode cL_law 16 = .ok (.iconst 1, 1) := by decide +kernel
theorem dL_law_17 : decode cL_law 17 = .ok (.newarray .long, 2) := by decide +kernel
theorem dL_law_19 : decode cL_law 19 = .ok (.astore_n 3, 1) := by decide +kernel
theorem dL_law_20 : decode cL_law 20 = .ok (.iconst 0, 1) := by decide +kernel
theorem dL_law_21 : decode cL_law 21 = .ok (.istore 4, 2) := by decide +kernel
theorem dL_law_23 : decode cL_law 23 = .ok (.iload 4, 2) := by decide +kernel
theorem dL_law_25 : decode cL_law 25 = .ok (.aload_n 0, 1) := by decide +kernel
theorem dL_law_26 : decode cL_law 26 = .ok (.arraylength, 1) := by decide +kernel
theorem dL_law_27 : decode cL_law 27 = .ok (.bipush 6, 2) := by decide +kernel
theorem dL_law_29 : decode cL_law 29 = .ok (.isub, 1) := by decide +kernel
theorem dL_law_30 : decode cL_law 30 = .ok (.if_icmp .gt 2294, 3) := by decide +kernel
theorem dL_law_33 : decode cL_law 33 = .ok (.aload_n 0, 1) := by decide +kernel
theorem dL_law_34 : decode cL_law 34 = .ok (.iload 4, 2) := by decide +kernel
theorem dL_law_36 : decode cL_law 36 = .ok (.iaload, 1) := by decide +kernel
theorem dL_law_37 : decode cL_law 37 = .ok (.bipush 63, 2) := by decide +kernel
theorem dL_law_39 : decode cL_law 39 = .ok (.iand, 1) := by decide +kernel
theorem dL_law_40 : decode cL_law 40 = .ok (.tableswitch 2278 0 59 #[256, 360, 416, 460, 504, 517, 573, 617, 630, 643, 699, 755, 791, 847, 891, 904, 917, 930, 943, 956, 969, 982, 995, 1008, 1021, 1077, 1145, 1201, 1269, 1325, 1338, 1394, 1438, 1451, 1495, 1551, 1607, 1620, 1676, 1689, 1745, 1801, 1814, 1870, 1883, 1939, 1952, 1965, 1978, 1991, 2004, 2017, 2058, 2101, 2114, 2170, 2183, 2196, 2209, 2222], 256) := by decide +kernel
theorem dL_law_296 : decode cL_law 296 = .ok (.aload_n 1, 1) := by decide +kernel
theorem dL_law_297 : decode cL_law 297 = .ok (.aload_n 0, 1) := by decide +kernel
theorem dL_law_298 : decode cL_law 298 = .ok (.iload 4, 2) := by decide +kernel
theorem dL_law_300 : decode cL_law 300 = .ok (.iconst 1, 1) := by decide +kernel
theorem dL_law_301 : decode cL_law 301 = .ok (.iadd, 1) := by decide +kernel
theorem dL_law_302 : decode cL_law 302 = .ok (.iaload, 1) := by decide +kernel
theorem dL_law_303 : decode cL_law 303 = .ok (.aload_n 0, 1) := by decide +kernel
theorem dL_law_304 : decode cL_law 304 = .ok (.iload 4, 2) := by decide +kernel
theorem dL_law_306 : decode cL_law 306 = .ok (.iconst 2, 1) := by decide +kernel
theorem dL_law_307 : decode cL_law 307 = .ok (.iadd, 1) := by decide +kernel
theorem dL_law_308 : decode cL_law 308 = .ok (.iaload, 1) := by decide +kernel
theorem dL_law_309 : decode cL_law 309 = .ok (.aload_n 0, 1) := by decide +kernel
theorem dL_law_310 : decode cL_law 310 = .ok (.iload 4, 2) := by decide +kernel
theorem dL_law_312 : decode cL_law 312 = .ok (.iconst 3, 1) := by decide +kernel
theorem dL_law_313 : decode cL_law 313 = .ok (.iadd, 1) := by decide +kernel
theorem dL_law_314 : decode cL_law 314 = .ok (.iaload, 1) := by decide +kernel
theorem dL_law_315 : decode cL_law 315 = .ok (.aload_n 0, 1) := by decide +kernel
theorem dL_law_316 : decode cL_law 316 = .ok (.iload 4, 2) := by decide +kernel
theorem dL_law_318 : decode cL_law 318 = .ok (.iconst 4, 1) := by decide +kernel
theorem dL_law_319 : decode cL_law 319 = .ok (.iadd, 1) := by decide +kernel
theorem dL_law_320 : decode cL_law 320 = .ok (.iaload, 1) := by decide +kernel
theorem dL_law_321 : decode cL_law 321 = .ok (.aload_n 0, 1) := by decide +kernel
theorem dL_law_322 : decode cL_law 322 = .ok (.iload 4, 2) := by decide +kernel
theorem dL_law_324 : decode cL_law 324 = .ok (.iconst 5, 1) := by decide +kernel
theorem dL_law_325 : decode cL_law 325 = .ok (.iadd, 1) := by decide +kernel
theorem dL_law_326 : decode cL_law 326 = .ok (.iaload, 1) := by decide +kernel
theorem dL_law_327 : decode cL_law 327 = .ok (.aload_n 3, 1) := by decide +kernel
theorem dL_law_328 : decode cL_law 328 = .ok (.invokestatic 110, 3) := by decide +kernel
theorem dL_law_331 : decode cL_law 331 = .ok (.istore 5, 2) := by decide +kernel
theorem dL_law_333 : decode cL_law 333 = .ok (.aload_n 2, 1) := by decide +kernel
theorem dL_law_334 : decode cL_law 334 = .ok (.aload_n 0, 1) := by decide +kernel
theorem dL_law_335 : decode cL_law 335 = .ok (.iload 4, 2) := by decide +kernel
theorem dL_law_337 : decode cL_law 337 = .ok (.iconst 1, 1) := by decide +kernel
theorem dL_law_338 : decode cL_law 338 = .ok (.iadd, 1) := by decide +kernel
theorem dL_law_339 : decode cL_law 339 = .ok (.iaload, 1) := by decide +kernel
theorem dL_law_340 : decode cL_law 340 = .ok (.aload_n 0, 1) := by decide +kernel
theorem dL_law_341 : decode cL_law 341 = .ok (.iload 4, 2) := by decide +kernel
theorem dL_law_343 : decode cL_law 343 = .ok (.iconst 2, 1) := by decide +kernel
theorem dL_law_344 : decode cL_law 344 = .ok (.iadd, 1) := by decide +kernel
theorem dL_law_345 : decode cL_law 345 = .ok (.iaload, 1) := by decide +kernel
theorem dL_law_346 : decode cL_law 346 = .ok (.aload_n 0, 1) := by decide +kernel
theorem dL_law_347 : decode cL_law 347 = .ok (.iload 4, 2) := by decide +kernel
theorem dL_law_349 : decode cL_law 349 = .ok (.iconst 3, 1) := by decide +kernel
theorem dL_law_350 : decode cL_law 350 = .ok (.iadd, 1) := by decide +kernel
theorem dL_law_351 : decode cL_law 351 = .ok (.iaload, 1) := by decide +kernel
theorem dL_law_352 : decode cL_law 352 = .ok (.aload_n 0, 1) := by decide +kernel
theorem dL_law_353 : decode cL_law 353 = .ok (.iload 4, 2) := by decide +kernel
theorem dL_law_355 : decode cL_law 355 = .ok (.iconst 4, 1) := by decide +kernel
theorem dL_law_356 : decode cL_law 356 = .ok (.iadd, 1) := by decide +kernel
theorem dL_law_357 : decode cL_law 357 = .ok (.iaload, 1) := by decide +kernel
theorem dL_law_358 : decode cL_law 358 = .ok (.aload_n 0, 1) := by decide +kernel
theorem dL_law_359 : decode cL_law 359 = .ok (.iload 4, 2) := by decide +kernel
theorem dL_law_361 : decode cL_law 361 = .ok (.iconst 5, 1) := by decide +kernel
theorem dL_law_362 : decode cL_law 362 = .ok (.iadd, 1) := by decide +kernel
theorem dL_law_363 : decode cL_law 363 = .ok (.iaload, 1) := by decide +kernel
theorem dL_law_364 : decode cL_law 364 = .ok (.invokevirtual 115, 3) := by decide +kernel
theorem dL_law_367 : decode cL_law 367 = .ok (.istore 6, 2) := by decide +kernel
theorem dL_law_369 : decode cL_law 369 = .ok (.aload_n 2, 1) := by decide +kernel
theorem dL_law_370 : decode cL_law 370 = .ok (.invokevirtual 116, 3) := by decide +kernel
theorem dL_law_373 : decode cL_law 373 = .ok (.iload 5, 2) := by decide +kernel
theorem dL_law_375 : decode cL_law 375 = .ok (.if_icmp .eq 5, 3) := by decide +kernel
theorem dL_law_378 : decode cL_law 378 = .ok (.iconst 0, 1) := by decide +kernel
theorem dL_law_379 : decode cL_law 379 = .ok (.ireturn, 1) := by decide +kernel
theorem dL_law_380 : decode cL_law 380 = .ok (.iload 5, 2) := by decide +kernel
theorem dL_law_382 : decode cL_law 382 = .ok (.ifCond .ne 15, 3) := by decide +kernel
theorem dL_law_385 : decode cL_law 385 = .ok (.aload_n 3, 1) := by decide +kernel
theorem dL_law_386 : decode cL_law 386 = .ok (.iconst 0, 1) := by decide +kernel
theorem dL_law_387 : decode cL_law 387 = .ok (.laload, 1) := by decide +kernel
theorem dL_law_388 : decode cL_law 388 = .ok (.iload 6, 2) := by decide +kernel
theorem dL_law_390 : decode cL_law 390 = .ok (.i2l, 1) := by decide +kernel
theorem dL_law_391 : decode cL_law 391 = .ok (.lcmp, 1) := by decide +kernel
theorem dL_law_392 : decode cL_law 392 = .ok (.ifCond .eq 5, 3) := by decide +kernel
theorem dL_law_395 : decode cL_law 395 = .ok (.iconst 0, 1) := by decide +kernel
theorem dL_law_396 : decode cL_law 396 = .ok (.ireturn, 1) := by decide +kernel
theorem dL_law_397 : decode cL_law 397 = .ok (.goto 1921, 3) := by decide +kernel
theorem dL_law_400 : decode cL_law 400 = .ok (.aload_n 1, 1) := by decide +kernel
theorem dL_law_401 : decode cL_law 401 = .ok (.aload_n 0, 1) := by decide +kernel
theorem dL_law_402 : decode cL_law 402 = .ok (.iload 4, 2) := by decide +kernel
theorem dL_law_404 : decode cL_law 404 = .ok (.iconst 1, 1) := by decide +kernel
theorem dL_law_405 : decode cL_law 405 = .ok (.iadd, 1) := by decide +kernel
theorem dL_law_406 : decode cL_law 406 = .ok (.iaload, 1) := by decide +kernel
theorem dL_law_407 : decode cL_law 407 = .ok (.aload_n 3, 1) := by decide +kernel
theorem dL_law_408 : decode cL_law 408 = .ok (.invokestatic 119, 3) := by decide +kernel
theorem dL_law_411 : decode cL_law 411 = .ok (.istore 5, 2) := by decide +kernel
theorem dL_law_413 : decode cL_law 413 = .ok (.aload_n 2, 1) := by decide +kernel
theorem dL_law_414 : decode cL_law 414 = .ok (.aload_n 0, 1) := by decide +kernel
theorem dL_law_415 : decode cL_law 415 = .ok (.iload 4, 2) := by decide +kernel
theorem dL_law_417 : decode cL_law 417 = .ok (.iconst 1, 1) := by decide +kernel
theorem dL_law_418 : decode cL_law 418 = .ok (.iadd, 1) := by decide +kernel
theorem dL_law_419 : decode cL_law 419 = .ok (.iaload, 1) := by decide +kernel
theorem dL_law_420 : decode cL_law 420 = .ok (.invokevirtual 122, 3) := by decide +kernel
theorem dL_law_423 : decode cL_law 423 = .ok (.istore 6, 2) := by decide +kernel
theorem dL_law_425 : decode cL_law 425 = .ok (.aload_n 2, 1) := by decide +kernel
theorem dL_law_426 : decode cL_law 426 = .ok (.invokevirtual 116, 3) := by decide +kernel
theorem dL_law_429 : decode cL_law 429 = .ok (.iload 5, 2) := by decide +kernel
theorem dL_law_431 : decode cL_law 431 = .ok (.if_icmp .eq 5, 3) := by decide +kernel
theorem dL_law_434 : decode cL_law 434 = .ok (.iconst 0, 1) := by decide +kernel
theorem dL_law_435 : decode cL_law 435 = .ok (.ireturn, 1) := by decide +kernel
theorem dL_law_436 : decode cL_law 436 = .ok (.iload 5, 2) := by decide +kernel
theorem dL_law_438 : decode cL_law 438 = .ok (.ifCond .ne 15, 3) := by decide +kernel
theorem dL_law_441 : decode cL_law 441 = .ok (.aload_n 3, 1) := by decide +kernel
theorem dL_law_442 : decode cL_law 442 = .ok (.iconst 0, 1) := by decide +kernel
theorem dL_law_443 : decode cL_law 443 = .ok (.laload, 1) := by decide +kernel
theorem dL_law_444 : decode cL_law 444 = .ok (.iload 6, 2) := by decide +kernel
theorem dL_law_446 : decode cL_law 446 = .ok (.i2l, 1) := by decide +kernel
theorem dL_law_447 : decode cL_law 447 = .ok (.lcmp, 1) := by decide +kernel
theorem dL_law_448 : decode cL_law 448 = .ok (.ifCond .eq 5, 3) := by decide +kernel
theorem dL_law_451 : decode cL_law 451 = .ok (.iconst 0, 1) := by decide +kernel
theorem dL_law_452 : decode cL_law 452 = .ok (.ireturn, 1) := by decide +kernel
theorem dL_law_453 : decode cL_law 453 = .ok (.goto 1865, 3) := by decide +kernel
theorem dL_law_456 : decode cL_law 456 = .ok (.aload_n 1, 1) := by decide +kernel
theorem dL_law_457 : decode cL_law 457 = .ok (.aload_n 3, 1) := by decide +kernel
theorem dL_law_458 : decode cL_law 458 = .ok (.invokestatic 123, 3) := by decide +kernel
theorem dL_law_461 : decode cL_law 461 = .ok (.istore 5, 2) := by decide +kernel
theorem dL_law_463 : decode cL_law 463 = .ok (.aload_n 2, 1) := by decide +kernel
theorem dL_law_464 : decode cL_law 464 = .ok (.invokevirtual 126, 3) := by decide +kernel
theorem dL_law_467 : decode cL_law 467 = .ok (.istore 6, 2) := by decide +kernel
theorem dL_law_469 : decode cL_law 469 = .ok (.aload_n 2, 1) := by decide +kernel
theorem dL_law_470 : decode cL_law 470 = .ok (.invokevirtual 116, 3) := by decide +kernel
theorem dL_law_473 : decode cL_law 473 = .ok (.iload 5, 2) := by decide +kernel
theorem dL_law_475 : decode cL_law 475 = .ok (.if_icmp .eq 5, 3) := by decide +kernel
theorem dL_law_478 : decode cL_law 478 = .ok (.iconst 0, 1) := by decide +kernel
theorem dL_law_479 : decode cL_law 479 = .ok (.ireturn, 1) := by decide +kernel
theorem dL_law_480 : decode cL_law 480 = .ok (.iload 5, 2) := by decide +kernel
theorem dL_law_482 : decode cL_law 482 = .ok (.ifCond .ne 15, 3) := by decide +kernel
theorem dL_law_485 : decode cL_law 485 = .ok (.aload_n 3, 1) := by decide +kernel
theorem dL_law_486 : decode cL_law 486 = .ok (.iconst 0, 1) := by decide +kernel
theorem dL_law_487 : decode cL_law 487 = .ok (.laload, 1) := by decide +kernel
theorem dL_law_488 : decode cL_law 488 = .ok (.iload 6, 2) := by decide +kernel
theorem dL_law_490 : decode cL_law 490 = .ok (.i2l, 1) := by decide +kernel
theorem dL_law_491 : decode cL_law 491 = .ok (.lcmp, 1) := by decide +kernel
theorem dL_law_492 : decode cL_law 492 = .ok (.ifCond .eq 5, 3) := by decide +kernel
theorem dL_law_495 : decode cL_law 495 = .ok (.iconst 0, 1) := by decide +kernel
theorem dL_law_496 : decode cL_law 496 = .ok (.ireturn, 1) := by decide +kernel
theorem dL_law_497 : decode cL_law 497 = .ok (.goto 1821, 3) := by decide +kernel
theorem dL_law_500 : decode cL_law 500 = .ok (.aload_n 1, 1) := by decide +kernel
theorem dL_law_501 : decode cL_law 501 = .ok (.aload_n 3, 1) := by decide +kernel
theorem dL_law_502 : decode cL_law 502 = .ok (.invokestatic 127, 3) := by decide +kernel
theorem dL_law_505 : decode cL_law 505 = .ok (.istore 5, 2) := by decide +kernel
theorem dL_law_507 : decode cL_law 507 = .ok (.aload_n 2, 1) := by decide +kernel
theorem dL_law_508 : decode cL_law 508 = .ok (.invokevirtual 129, 3) := by decide +kernel
theorem dL_law_511 : decode cL_law 511 = .ok (.istore 6, 2) := by decide +kernel
theorem dL_law_513 : decode cL_law 513 = .ok (.aload_n 2, 1) := by decide +kernel
theorem dL_law_514 : decode cL_law 514 = .ok (.invokevirtual 116, 3) := by decide +kernel
theorem dL_law_517 : decode cL_law 517 = .ok (.iload 5, 2) := by decide +kernel
theorem dL_law_519 : decode cL_law 519 = .ok (.if_icmp .eq 5, 3) := by decide +kernel
theorem dL_law_522 : decode cL_law 522 = .ok (.iconst 0, 1) := by decide +kernel
theorem dL_law_523 : decode cL_law 523 = .ok (.ireturn, 1) := by decide +kernel
theorem dL_law_524 : decode cL_law 524 = .ok (.iload 5, 2) := by decide +kernel
theorem dL_law_526 : decode cL_law 526 = .ok (.ifCond .ne 15, 3) := by decide +kernel
theorem dL_law_529 : decode cL_law 529 = .ok (.aload_n 3, 1) := by decide +kernel
theorem dL_law_530 : decode cL_law 530 = .ok (.iconst 0, 1) := by decide +kernel
theorem dL_law_531 : decode cL_law 531 = .ok (.laload, 1) := by decide +kernel
theorem dL_law_532 : decode cL_law 532 = .ok (.iload 6, 2) := by decide +kernel
theorem dL_law_534 : decode cL_law 534 = .ok (.i2l, 1) := by decide +kernel
theorem dL_law_535 : decode cL_law 535 = .ok (.lcmp, 1) := by decide +kernel
theorem dL_law_536 : decode cL_law 536 = .ok (.ifCond .eq 5, 3) := by decide +kernel
