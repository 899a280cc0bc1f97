set_option maxRecDepth 20000 in
theorem ggX8_prefixOf_X8_throwing : GoodIn wsX8_prefixOf wsX8_throwing := goodIn_r _ [13, 14, 27, 28, 29, 30, 31, 32, 33, 34, 35, 36, 37, 38, 39, 40, 41, 42, 43, 44, 45, 46, 47, 48, 49, 50, 51, 52, 53] (by decide +kernel) (by decide +kernel)
set_option maxRecDepth 20000 in
theorem gX8_prefixOf_X8_throwing : GoodIn wsX8_prefixOf (wsV RX8 59 RX8 yX8_throwing wsX8_throwing) := goodIn_app (goodIn_of _ (by decide +kernel)) ggX8_prefixOf_X8_throwing
set_option maxRecDepth 20000 in
theorem ggX8_prefixOf_X8_isFirst : GoodIn wsX8_prefixOf wsX8_isFirst := goodIn_r _ [18, 19, 20, 21, 5, 22, 1, 27, 28, 29, 30, 31, 32, 33, 34, 35, 36, 37, 38, 39, 40, 41, 42, 43, 44, 45, 46, 47, 48, 49, 50, 51, 52, 53] (by decide +kernel) (by decide +kernel)
set_option maxRecDepth 20000 in
theorem gX8_prefixOf_X8_isFirst : GoodIn wsX8_prefixOf (wsV RX8 83 RX8 yX8_isFirst wsX8_isFirst) := goodIn_app (goodIn_of _ (by decide +kernel)) ggX8_prefixOf_X8_isFirst
set_option maxRecDepth 20000 in
theorem ggX8_prefixOf_X8_told : GoodIn wsX8_prefixOf wsX8_told := goodIn_r _ [26, 14, 27, 28, 29, 30, 31, 32, 33, 34, 35, 36, 37, 38, 39, 40, 41, 42, 43, 44, 45, 46, 47, 48, 49, 50, 51, 52, 53] (by decide +kernel) (by decide +kernel)
set_option maxRecDepth 20000 in
theorem gX8_prefixOf_X8_told : GoodIn wsX8_prefixOf (wsV RX8 55 RX8 yX8_told wsX8_told) := goodIn_app (goodIn_of _ (by decide +kernel)) ggX8_prefixOf_X8_told
theorem dX8_prefixOf_0 : decode cX8_prefixOf 0 = .ok (.aload_n 0, 1) := by decide +kernel
theorem dX8_prefixOf_1 : decode cX8_prefixOf 1 = .ok (.iload_n 1, 1) := by decide +kernel
theorem dX8_prefixOf_2 : decode cX8_prefixOf 2 = .ok (.invokevirtual 320, 3) := by decide +kernel
theorem dX8_prefixOf_5 : decode cX8_prefixOf 5 = .ok (.ifCond .ne 9, 3) := by decide +kernel
theorem dX8_prefixOf_8 : decode cX8_prefixOf 8 = .ok (.aload_n 0, 1) := by decide +kernel
theorem dX8_prefixOf_9 : decode cX8_prefixOf 9 = .ok (.iconst 1, 1) := by decide +kernel
theorem dX8_prefixOf_10 : decode cX8_prefixOf 10 = .ok (.invokevirtual 59, 3) := by decide +kernel
theorem dX8_prefixOf_13 : decode cX8_prefixOf 13 = .ok (.ireturn, 1) := by decide +kernel
theorem dX8_prefixOf_14 : decode cX8_prefixOf 14 = .ok (.aload_n 0, 1) := by decide +kernel
theorem dX8_prefixOf_15 : decode cX8_prefixOf 15 = .ok (.iload_n 1, 1) := by decide +kernel
theorem dX8_prefixOf_16 : decode cX8_prefixOf 16 = .ok (.invokevirtual 83, 3) := by decide +kernel
theorem dX8_prefixOf_19 : decode cX8_prefixOf 19 = .ok (.ifCond .eq 9, 3) := by decide +kernel
theorem dX8_prefixOf_22 : decode cX8_prefixOf 22 = .ok (.aload_n 0, 1) := by decide +kernel
theorem dX8_prefixOf_23 : decode cX8_prefixOf 23 = .ok (.iconst 2, 1) := by decide +kernel
theorem dX8_prefixOf_24 : decode cX8_prefixOf 24 = .ok (.invokevirtual 59, 3) := by decide +kernel
theorem dX8_prefixOf_27 : decode cX8_prefixOf 27 = .ok (.ireturn, 1) := by decide +kernel
theorem dX8_prefixOf_28 : decode cX8_prefixOf 28 = .ok (.aload_n 0, 1) := by decide +kernel
theorem dX8_prefixOf_29 : decode cX8_prefixOf 29 = .ok (.aload_n 0, 1) := by decide +kernel
theorem dX8_prefixOf_30 : decode cX8_prefixOf 30 = .ok (.getfield 17, 3) := by decide +kernel
theorem dX8_prefixOf_33 : decode cX8_prefixOf 33 = .ok (.bipush 14, 2) := by decide +kernel
theorem dX8_prefixOf_35 : decode cX8_prefixOf 35 = .ok (.iload_n 1, 1) := by decide +kernel
theorem dX8_prefixOf_36 : decode cX8_prefixOf 36 = .ok (.iadd, 1) := by decide +kernel
theorem dX8_prefixOf_37 : decode cX8_prefixOf 37 = .ok (.iaload, 1) := by decide +kernel
theorem dX8_prefixOf_38 : decode cX8_prefixOf 38 = .ok (.invokevirtual 55, 3) := by decide +kernel
theorem dX8_prefixOf_41 : decode cX8_prefixOf 41 = .ok (.ireturn, 1) := by decide +kernel
set_option maxRecDepth 20000 in
theorem ggX8_extensionOf_X8_isCode : GoodIn wsX8_extensionOf wsX8_isCode := goodIn_r _ [5, 6, 7, 8, 4, 9, 31, 32, 33, 34, 35, 36, 37, 38, 39, 40, 41, 42, 43, 44, 45, 46, 47, 48, 49, 50, 51, 52, 53, 54, 55, 56, 57] (by decide +kernel) (by decide +kernel)
set_option maxRecDepth 20000 in
theorem gX8_extensionOf_X8_isCode : GoodIn wsX8_extensionOf (wsV RX8 320 RX8 yX8_isCode wsX8_isCode) := goodIn_app (goodIn_of _ (by decide +kernel)) ggX8_extensionOf_X8_isCode
set_option maxRecDepth 20000 in
theorem ggX8_extensionOf_X8_throwing : GoodIn wsX8_extensionOf wsX8_throwing := goodIn_r _ [13, 14, 31, 32, 33, 34, 35, 36, 37, 38, 39, 40, 41, 42, 43, 44, 45, 46, 47, 48, 49, 50, 51, 52, 53, 54, 55, 56, 57] (by decide +kernel) (by decide +kernel)
set_option maxRecDepth 20000 in
theorem gX8_extensionOf_X8_throwing : GoodIn wsX8_extensionOf (wsV RX8 59 RX8 yX8_throwing wsX8_throwing) := goodIn_app (goodIn_of _ (by decide +kernel)) ggX8_extensionOf_X8_throwing
set_option maxRecDepth 20000 in
theorem ggX8_extensionOf_X8_isSymbol : GoodIn wsX8_extensionOf wsX8_isSymbol := goodIn_r _ [18, 6, 7, 8, 4, 9, 31, 32, 33, 34, 35, 36, 37, 38, 39, 40, 41, 42, 43, 44, 45, 46, 47, 48, 49, 50, 51, 52, 53, 54, 55, 56, 57] (by decide +kernel) (by decide +kernel)
set_option maxRecDepth 20000 in
theorem gX8_extensionOf_X8_isSymbol : GoodIn wsX8_extensionOf (wsV RX8 144 RX8 yX8_isSymbol wsX8_isSymbol) := goodIn_app (goodIn_of _ (by decide +kernel)) ggX8_extensionOf_X8_isSymbol
set_option maxRecDepth 20000 in
theorem ggX8_extensionOf_X8_clear : GoodIn wsX8_extensionOf wsX8_clear := goodIn_r _ [22, 6, 31, 32, 33, 34, 35, 36, 37, 38, 39, 40, 41, 42, 43, 44, 45, 46, 47, 48, 49, 50, 51, 52, 53, 54, 55, 56, 57] (by decide +kernel) (by decide +kernel)
set_option maxRecDepth 20000 in
theorem gX8_extensionOf_X8_clear : GoodIn wsX8_extensionOf (wsV RX8 80 RX8 yX8_clear wsX8_clear) := goodIn_app (goodIn_of _ (by decide +kernel)) ggX8_extensionOf_X8_clear
set_option maxRecDepth 20000 in
theorem ggX8_extensionOf_X8_longer : GoodIn wsX8_extensionOf wsX8_longer := goodIn_r _ [26, 6, 19, 20, 21, 4, 22, 31, 32, 33, 34, 35, 36, 37, 38, 39, 40, 41, 42, 43, 44, 45, 46, 47, 48, 49, 50, 51, 52, 53, 54, 55, 56, 57] (by decide +kernel) (by decide +kernel)
set_option maxRecDepth 20000 in
theorem gX8_extensionOf_X8_longer : GoodIn wsX8_extensionOf (wsV RX8 138 RX8 yX8_longer wsX8_longer) := goodIn_app (goodIn_of _ (by decide +kernel)) ggX8_extensionOf_X8_longer
set_option maxRecDepth 20000 in
theorem ggX8_extensionOf_X8_told : GoodIn wsX8_extensionOf wsX8_told := goodIn_r _ [30, 14, 31, 32, 33, 34, 35, 36, 37, 38, 39, 40, 41, 42, 43, 44, 45, 46, 47, 48, 49, 50, 51, 52, 53, 54, 55, 56, 57] (by decide +kernel) (by decide +kernel)
set_option maxRecDepth 20000 in
theorem gX8_extensionOf_X8_told : GoodIn wsX8_extensionOf (wsV RX8 55 RX8 yX8_told wsX8_told) := goodIn_app (goodIn_of _ (by decide +kernel)) ggX8_extensionOf_X8_told
theorem dX8_extensionOf_0 : decode cX8_extensionOf 0 = .ok (.aload_n 0, 1) := by decide +kernel
theorem dX8_extensionOf_1 : decode cX8_extensionOf 1 = .ok (.iload_n 1, 1) := by decide +kernel
theorem dX8_extensionOf_2 : decode cX8_extensionOf 2 = .ok (.invokevirtual 320, 3) := by decide +kernel
theorem dX8_extensionOf_5 : decode cX8_extensionOf 5 = .ok (.ifCond .ne 9, 3) := by decide +kernel
theorem dX8_extensionOf_8 : decode cX8_extensionOf 8 = .ok (.aload_n 0, 1) := by decide +kernel
theorem dX8_extensionOf_9 : decode cX8_extensionOf 9 = .ok (.iconst 1, 1) := by decide +kernel
theorem dX8_extensionOf_10 : decode cX8_extensionOf 10 = .ok (.invokevirtual 59, 3) := by decide +kernel
theorem dX8_extensionOf_13 : decode cX8_extensionOf 13 = .ok (.ireturn, 1) := by decide +kernel
theorem dX8_extensionOf_14 : decode cX8_extensionOf 14 = .ok (.aload_n 0, 1) := by decide +kernel
theorem dX8_extensionOf_15 : decode cX8_extensionOf 15 = .ok (.iload_n 2, 1) := by decide +kernel
theorem dX8_extensionOf_16 : decode cX8_extensionOf 16 = .ok (.invokevirtual 144, 3) := by decide +kernel
theorem dX8_extensionOf_19 : decode cX8_extensionOf 19 = .ok (.ifCond .ne 9, 3) := by decide +kernel
theorem dX8_extensionOf_22 : decode cX8_extensionOf 22 = .ok (.aload_n 0, 1) := by decide +kernel
theorem dX8_extensionOf_23 : decode cX8_extensionOf 23 = .ok (.iconst 2, 1) := by decide +kernel
theorem dX8_extensionOf_24 : decode cX8_extensionOf 24 = .ok (.invokevirtual 59, 3) := by decide +kernel
theorem dX8_extensionOf_27 : decode cX8_extensionOf 27 = .ok (.ireturn, 1) := by decide +kernel
theorem dX8_extensionOf_28 : decode cX8_extensionOf 28 = .ok (.iload_n 1, 1) := by decide +kernel
theorem dX8_extensionOf_29 : decode cX8_extensionOf 29 = .ok (.aload_n 0, 1) := by decide +kernel
theorem dX8_extensionOf_30 : decode cX8_extensionOf 30 = .ok (.invokevirtual 80, 3) := by decide +kernel
theorem dX8_extensionOf_33 : decode cX8_extensionOf 33 = .ok (.if_icmp .ne 9, 3) := by decide +kernel
theorem dX8_extensionOf_36 : decode cX8_extensionOf 36 = .ok (.aload_n 0, 1) := by decide +kernel
theorem dX8_extensionOf_37 : decode cX8_extensionOf 37 = .ok (.iconst 2, 1) := by decide +kernel
theorem dX8_extensionOf_38 : decode cX8_extensionOf 38 = .ok (.invokevirtual 59, 3) := by decide +kernel
theorem dX8_extensionOf_41 : decode cX8_extensionOf 41 = .ok (.ireturn, 1) := by decide +kernel
theorem dX8_extensionOf_42 : decode cX8_extensionOf 42 = .ok (.aload_n 0, 1) := by decide +kernel
theorem dX8_extensionOf_43 : decode cX8_extensionOf 43 = .ok (.iload_n 1, 1) := by decide +kernel
theorem dX8_extensionOf_44 : decode cX8_extensionOf 44 = .ok (.iload_n 2, 1) := by decide +kernel
theorem dX8_extensionOf_45 : decode cX8_extensionOf 45 = .ok (.invokevirtual 138, 3) := by decide +kernel
theorem dX8_extensionOf_48 : decode cX8_extensionOf 48 = .ok (.istore_n 3, 1) := by decide +kernel
theorem dX8_extensionOf_49 : decode cX8_extensionOf 49 = .ok (.iload_n 3, 1) := by decide +kernel
theorem dX8_extensionOf_50 : decode cX8_extensionOf 50 = .ok (.ifCond .ge 9, 3) := by decide +kernel
theorem dX8_extensionOf_53 : decode cX8_extensionOf 53 = .ok (.aload_n 0, 1) := by decide +kernel
theorem dX8_extensionOf_54 : decode cX8_extensionOf 54 = .ok (.iconst 3, 1) := by decide +kernel
theorem dX8_extensionOf_55 : decode cX8_extensionOf 55 = .ok (.invokevirtual 59, 3) := by decide +kernel
theorem dX8_extensionOf_58 : decode cX8_extensionOf 58 = .ok (.ireturn, 1) := by decide +kernel
theorem dX8_extensionOf_59 : decode cX8_extensionOf 59 = .ok (.aload_n 0, 1) := by decide +kernel
theorem dX8_extensionOf_60 : decode cX8_extensionOf 60 = .ok (.iload_n 3, 1) := by decide +kernel
theorem dX8_extensionOf_61 : decode cX8_extensionOf 61 = .ok (.invokevirtual 55, 3) := by decide +kernel
theorem dX8_extensionOf_64 : decode cX8_extensionOf 64 = .ok (.ireturn, 1) := by decide +kernel
set_option maxRecDepth 20000 in
theorem ggX8_extensionCount_X8_isCode : GoodIn wsX8_extensionCount wsX8_isCode := goodIn_r _ [6, 1, 7, 8, 5, 9, 23, 24, 25, 26, 27, 28, 29, 30, 31, 32, 33, 34, 35, 36, 37, 38, 39, 40, 41, 42, 43, 44, 45, 46, 47, 48, 49] (by decide +kernel) (by decide +kernel)
set_option maxRecDepth 20000 in
theorem gX8_extensionCount_X8_isCode : GoodIn wsX8_extensionCount (wsV RX8 320 RX8 yX8_isCode wsX8_isCode) := goodIn_app (goodIn_of _ (by decide +kernel)) ggX8_extensionCount_X8_isCode
set_option maxRecDepth 20000 in
theorem ggX8_extensionCount_X8_throwing : GoodIn wsX8_extensionCount wsX8_throwing := goodIn_r _ [13, 14, 23, 24, 25, 26, 27, 28, 29, 30, 31, 32, 33, 34, 35, 36, 37, 38, 39, 40, 41, 42, 43, 44, 45, 46, 47, 48, 49] (by decide +kernel) (by decide +kernel)
set_option maxRecDepth 20000 in
theorem gX8_extensionCount_X8_throwing : GoodIn wsX8_extensionCount (wsV RX8 59 RX8 yX8_throwing wsX8_throwing) := goodIn_app (goodIn_of _ (by decide +kernel)) ggX8_extensionCount_X8_throwing
set_option maxRecDepth 20000 in
theorem ggX8_extensionCount_X8_clear : GoodIn wsX8_extensionCount wsX8_clear := goodIn_r _ [18, 1, 23, 24, 25, 26, 27, 28, 29, 30, 31, 32, 33, 34, 35, 36, 37, 38, 39, 40, 41, 42, 43, 44, 45, 46, 47, 48, 49] (by decide +kernel) (by decide +kernel)
set_option maxRecDepth 20000 in
theorem gX8_extensionCount_X8_clear : GoodIn wsX8_extensionCount (wsV RX8 80 RX8 yX8_clear wsX8_clear) := goodIn_app (goodIn_of _ (by decide +kernel)) ggX8_extensionCount_X8_clear
set_option maxRecDepth 20000 in
theorem ggX8_extensionCount_X8_told : GoodIn wsX8_extensionCount wsX8_told := goodIn_r _ [22, 14, 23, 24, 25, 26, 27, 28, 29, 30, 31, 32, 33, 34, 35, 36, 37, 38, 39, 40, 41, 42, 43, 44, 45, 46, 47, 48, 49] (by decide +kernel) (by decide +kernel)
set_option maxRecDepth 20000 in
theorem gX8_extensionCount_X8_told : GoodIn wsX8_extensionCount (wsV RX8 55 RX8 yX8_told wsX8_told) := goodIn_app (goodIn_of _ (by decide +kernel)) ggX8_extensionCount_X8_told
theorem dX8_extensionCount_0 : decode cX8_extensionCount 0 = .ok (.aload_n 0, 1) := by decide +kernel
theorem dX8_extensionCount_1 : decode cX8_extensionCount 1 = .ok (.iload_n 1, 1) := by decide +kernel
theorem dX8_extensionCount_2 : decode cX8_extensionCount 2 = .ok (.invokevirtual 320, 3) := by decide +kernel
theorem dX8_extensionCount_5 : decode cX8_extensionCount 5 = .ok (.ifCond .ne 9, 3) := by decide +kernel
theorem dX8_extensionCount_8 : decode cX8_extensionCount 8 = .ok (.aload_n 0, 1) := by decide +kernel
theorem dX8_extensionCount_9 : decode cX8_extensionCount 9 = .ok (.iconst 1, 1) := by decide +kernel
theorem dX8_extensionCount_10 : decode cX8_extensionCount 10 = .ok (.invokevirtual 59, 3) := by decide +kernel
theorem dX8_extensionCount_13 : decode cX8_extensionCount 13 = .ok (.ireturn, 1) := by decide +kernel
theorem dX8_extensionCount_14 : decode cX8_extensionCount 14 = .ok (.iconst 0, 1) := by decide +kernel
theorem dX8_extensionCount_15 : decode cX8_extensionCount 15 = .ok (.istore_n 2, 1) := by decide +kernel
theorem dX8_extensionCount_16 : decode cX8_extensionCount 16 = .ok (.aload_n 0, 1) := by decide +kernel
theorem dX8_extensionCount_17 : decode cX8_extensionCount 17 = .ok (.invokevirtual 80, 3) := by decide +kernel
theorem dX8_extensionCount_20 : decode cX8_extensionCount 20 = .ok (.iconst 1, 1) := by decide +kernel
theorem dX8_extensionCount_21 : decode cX8_extensionCount 21 = .ok (.iadd, 1) := by decide +kernel
theorem dX8_extensionCount_22 : decode cX8_extensionCount 22 = .ok (.istore_n 3, 1) := by decide +kernel
theorem dX8_extensionCount_23 : decode cX8_extensionCount 23 = .ok (.iload_n 3, 1) := by decide +kernel
theorem dX8_extensionCount_24 : decode cX8_extensionCount 24 = .ok (.aload_n 0, 1) := by decide +kernel
theorem dX8_extensionCount_25 : decode cX8_extensionCount 25 = .ok (.getfield 17, 3) := by decide +kernel
theorem dX8_extensionCount_28 : decode cX8_extensionCount 28 = .ok (.iconst 4, 1) := by decide +kernel
theorem dX8_extensionCount_29 : decode cX8_extensionCount 29 = .ok (.iaload, 1) := by decide +kernel
theorem dX8_extensionCount_30 : decode cX8_extensionCount 30 = .ok (.if_icmp .ge 25, 3) := by decide +kernel
theorem dX8_extensionCount_33 : decode cX8_extensionCount 33 = .ok (.aload_n 0, 1) := by decide +kernel
theorem dX8_extensionCount_34 : decode cX8_extensionCount 34 = .ok (.getfield 17, 3) := by decide +kernel
theorem dX8_extensionCount_37 : decode cX8_extensionCount 37 = .ok (.bipush 14, 2) := by decide +kernel
theorem dX8_extensionCount_39 : decode cX8_extensionCount 39 = .ok (.iload_n 3, 1) := by decide +kernel
theorem dX8_extensionCount_40 : decode cX8_extensionCount 40 = .ok (.iadd, 1) := by decide +kernel
theorem dX8_extensionCount_41 : decode cX8_extensionCount 41 = .ok (.iaload, 1) := by decide +kernel
theorem dX8_extensionCount_42 : decode cX8_extensionCount 42 = .ok (.iload_n 1, 1) := by decide +kernel
theorem dX8_extensionCount_43 : decode cX8_extensionCount 43 = .ok (.if_icmp .ne 6, 3) := by decide +kernel
theorem dX8_extensionCount_46 : decode cX8_extensionCount 46 = .ok (.iinc 2 1, 3) := by decide +kernel
theorem dX8_extensionCount_49 : decode cX8_extensionCount 49 = .ok (.iinc 3 1, 3) := by decide +kernel
theorem dX8_extensionCount_52 : decode cX8_extensionCount 52 = .ok (.goto (-29), 3) := by decide +kernel
theorem dX8_extensionCount_55 : decode cX8_extensionCount 55 = .ok (.aload_n 0, 1) := by decide +kernel
theorem dX8_extensionCount_56 : decode cX8_extensionCount 56 = .ok (.iload_n 2, 1) := by decide +kernel
theorem dX8_extensionCount_57 : decode cX8_extensionCount 57 = .ok (.invokevirtual 55, 3) := by decide +kernel
theorem dX8_extensionCount_60 : decode cX8_extensionCount 60 = .ok (.ireturn, 1) := by decide +kernel
set_option maxRecDepth 20000 in
theorem ggX8_longestPhrase_X8_lengthOf : GoodIn wsX8_longestPhrase wsX8_lengthOf := goodIn_r _ [6, 1, 7, 8, 9, 5, 10, 11, 12, 13, 14, 20, 21, 22, 23, 24, 25, 26, 27, 28, 29, 30, 31, 32, 33, 34, 35, 36, 37, 38, 39, 40, 41, 42, 43, 44, 45, 46] (by decide +kernel) (by decide +kernel)
set_option maxRecDepth 20000 in
theorem gX8_longestPhrase_X8_lengthOf : GoodIn wsX8_longestPhrase (wsV RX8 86 RX8 yX8_lengthOf wsX8_lengthOf) := goodIn_app (goodIn_of _ (by decide +kernel)) ggX8_longestPhrase_X8_lengthOf
set_option maxRecDepth 20000 in
theorem ggX8_longestPhrase_X8_told : GoodIn wsX8_longestPhrase wsX8_told := goodIn_r _ [18, 19, 20, 21, 22, 23, 24, 25, 26, 27, 28, 29, 30, 31, 32, 33, 34, 35, 36, 37, 38, 39, 40, 41, 42, 43, 44, 45, 46] (by decide +kernel) (by decide +kernel)
set_option maxRecDepth 20000 in
theorem gX8_longestPhrase_X8_told : GoodIn wsX8_longestPhrase (wsV RX8 55 RX8 yX8_told wsX8_told) := goodIn_app (goodIn_of _ (by decide +kernel)) ggX8_longestPhrase_X8_told
theorem dX8_longestPhrase_0 : decode cX8_longestPhrase 0 = .ok (.iconst 0, 1) := by decide +kernel
theorem dX8_longestPhrase_1 : decode cX8_longestPhrase 1 = .ok (.istore_n 1, 1) := by decide +kernel
theorem dX8_longestPhrase_2 : decode cX8_longestPhrase 2 = .ok (.aload_n 0, 1) := by decide +kernel
theorem dX8_longestPhrase_3 : decode cX8_longestPhrase 3 = .ok (.iload_n 1, 1) := by decide +kernel
theorem dX8_longestPhrase_4 : decode cX8_longestPhrase 4 = .ok (.invokevirtual 86, 3) := by decide +kernel
theorem dX8_longestPhrase_7 : decode cX8_longestPhrase 7 = .ok (.istore_n 2, 1) := by decide +kernel
theorem dX8_longestPhrase_8 : decode cX8_longestPhrase 8 = .ok (.iconst 1, 1) := by decide +kernel
theorem dX8_longestPhrase_9 : decode cX8_longestPhrase 9 = .ok (.istore_n 3, 1) := by decide +kernel
theorem dX8_longestPhrase_10 : decode cX8_longestPhrase 10 = .ok (.iload_n 3, 1) := by decide +kernel
theorem dX8_longestPhrase_11 : decode cX8_longestPhrase 11 = .ok (.aload_n 0, 1) := by decide +kernel
theorem dX8_longestPhrase_12 : decode cX8_longestPhrase 12 = .ok (.getfield 17, 3) := by decide +kernel
theorem dX8_longestPhrase_15 : decode cX8_longestPhrase 15 = .ok (.iconst 4, 1) := by decide +kernel
theorem dX8_longestPhrase_16 : decode cX8_longestPhrase 16 = .ok (.iaload, 1) := by decide +kernel
theorem dX8_longestPhrase_17 : decode cX8_longestPhrase 17 = .ok (.if_icmp .ge 27, 3) := by decide +kernel
theorem dX8_longestPhrase_20 : decode cX8_longestPhrase 20 = .ok (.aload_n 0, 1) := by decide +kernel
theorem dX8_longestPhrase_21 : decode cX8_longestPhrase 21 = .ok (.iload_n 3, 1) := by decide +kernel
theorem dX8_longestPhrase_22 : decode cX8_longestPhrase 22 = .ok (.invokevirtual 86, 3) := by decide +kernel
theorem dX8_longestPhrase_25 : decode cX8_longestPhrase 25 = .ok (.istore 4, 2) := by decide +kernel
theorem dX8_longestPhrase_27 : decode cX8_longestPhrase 27 = .ok (.iload 4, 2) := by decide +kernel
theorem dX8_longestPhrase_29 : decode cX8_longestPhrase 29 = .ok (.iload_n 2, 1) := by decide +kernel
theorem dX8_longestPhrase_30 : decode cX8_longestPhrase 30 = .ok (.if_icmp .le 8, 3) := by decide +kernel
theorem dX8_longestPhrase_33 : decode cX8_longestPhrase 33 = .ok (.iload_n 3, 1) := by decide +kernel
theorem dX8_longestPhrase_34 : decode cX8_longestPhrase 34 = .ok (.istore_n 1, 1) := by decide +kernel
theorem dX8_longestPhrase_35 : decode cX8_longestPhrase 35 = .ok (.iload 4, 2) := by decide +kernel
theorem dX8_longestPhrase_37 : decode cX8_longestPhrase 37 = .ok (.istore_n 2, 1) := by decide +kernel
theorem dX8_longestPhrase_38 : decode cX8_longestPhrase 38 = .ok (.iinc 3 1, 3) := by decide +kernel
theorem dX8_longestPhrase_41 : decode cX8_longestPhrase 41 = .ok (.goto (-31), 3) := by decide +kernel
theorem dX8_longestPhrase_44 : decode cX8_longestPhrase 44 = .ok (.aload_n 0, 1) := by decide +kernel
theorem dX8_longestPhrase_45 : decode cX8_longestPhrase 45 = .ok (.iload_n 1, 1) := by decide +kernel
theorem dX8_longestPhrase_46 : decode cX8_longestPhrase 46 = .ok (.invokevirtual 55, 3) := by decide +kernel
theorem dX8_longestPhrase_49 : decode cX8_longestPhrase 49 = .ok (.ireturn, 1) := by decide +kernel
set_option maxRecDepth 20000 in
theorem ggX8_usesOf_X8_isCode : GoodIn wsX8_usesOf wsX8_isCode := goodIn_r _ [6, 1, 7, 8, 5, 9, 23, 24, 25, 26, 27, 28, 29, 30, 31, 32, 33, 34, 35, 36, 37, 38, 39, 40, 41, 42, 43, 44, 45, 46, 47, 48, 49] (by decide +kernel) (by decide +kernel)
set_option maxRecDepth 20000 in
theorem gX8_usesOf_X8_isCode : GoodIn wsX8_usesOf (wsV RX8 320 RX8 yX8_isCode wsX8_isCode) := goodIn_app (goodIn_of _ (by decide +kernel)) ggX8_usesOf_X8_isCode
set_option maxRecDepth 20000 in
theorem ggX8_usesOf_X8_throwing : GoodIn wsX8_usesOf wsX8_throwing := goodIn_r _ [13, 14, 23, 24, 25, 26, 27, 28, 29, 30, 31, 32, 33, 34, 35, 36, 37, 38, 39, 40, 41, 42, 43, 44, 45, 46, 47, 48, 49] (by decide +kernel) (by decide +kernel)
set_option maxRecDepth 20000 in
theorem gX8_usesOf_X8_throwing : GoodIn wsX8_usesOf (wsV RX8 59 RX8 yX8_throwing wsX8_throwing) := goodIn_app (goodIn_of _ (by decide +kernel)) ggX8_usesOf_X8_throwing
set_option maxRecDepth 20000 in
theorem ggX8_usesOf_X8_codeAt : GoodIn wsX8_usesOf wsX8_codeAt := goodIn_r _ [18, 1, 23, 24, 25, 26, 27, 28, 29, 30, 31, 32, 33, 34, 35, 36, 37, 38, 39, 40, 41, 42, 43, 44, 45, 46, 47, 48, 49] (by decide +kernel) (by decide +kernel)
set_option maxRecDepth 20000 in
theorem gX8_usesOf_X8_codeAt : GoodIn wsX8_usesOf (wsV RX8 99 RX8 yX8_codeAt wsX8_codeAt) := goodIn_app (goodIn_of _ (by decide +kernel)) ggX8_usesOf_X8_codeAt
set_option maxRecDepth 20000 in
theorem ggX8_usesOf_X8_told : GoodIn wsX8_usesOf wsX8_told := goodIn_r _ [22, 14, 23, 24, 25, 26, 27, 28, 29, 30, 31, 32, 33, 34, 35, 36, 37, 38, 39, 40, 41, 42, 43, 44, 45, 46, 47, 48, 49] (by decide +kernel) (by decide +kernel)
set_option maxRecDepth 20000 in
theorem gX8_usesOf_X8_told : GoodIn wsX8_usesOf (wsV RX8 55 RX8 yX8_told wsX8_told) := goodIn_app (goodIn_of _ (by decide +kernel)) ggX8_usesOf_X8_told
theorem dX8_usesOf_0 : decode cX8_usesOf 0 = .ok (.aload_n 0, 1) := by decide +kernel
theorem dX8_usesOf_1 : decode cX8_usesOf 1 = .ok (.iload_n 1, 1) := by decide +kernel
theorem dX8_usesOf_2 : decode cX8_usesOf 2 = .ok (.invokevirtual 320, 3) := by decide +kernel
theorem dX8_usesOf_5 : decode cX8_usesOf 5 = .ok (.ifCond .ne 9, 3) := by decide +kernel
theorem dX8_usesOf_8 : decode cX8_usesOf 8 = .ok (.aload_n 0, 1) := by decide +kernel
theorem dX8_usesOf_9 : decode cX8_usesOf 9 = .ok (.iconst 1, 1) := by decide +kernel
theorem dX8_usesOf_10 : decode cX8_usesOf 10 = .ok (.invokevirtual 59, 3) := by decide +kernel
theorem dX8_usesOf_13 : decode cX8_usesOf 13 = .ok (.ireturn, 1) := by decide +kernel
theorem dX8_usesOf_14 : decode cX8_usesOf 14 = .ok (.iconst 0, 1) := by decide +kernel
theorem dX8_usesOf_15 : decode cX8_usesOf 15 = .ok (.istore_n 2, 1) := by decide +kernel
theorem dX8_usesOf_16 : decode cX8_usesOf 16 = .ok (.iconst 0, 1) := by decide +kernel
theorem dX8_usesOf_17 : decode cX8_usesOf 17 = .ok (.istore_n 3, 1) := by decide +kernel
theorem dX8_usesOf_18 : decode cX8_usesOf 18 = .ok (.iload_n 3, 1) := by decide +kernel
theorem dX8_usesOf_19 : decode cX8_usesOf 19 = .ok (.aload_n 0, 1) := by decide +kernel
theorem dX8_usesOf_20 : decode cX8_usesOf 20 = .ok (.getfield 17, 3) := by decide +kernel
theorem dX8_usesOf_23 : decode cX8_usesOf 23 = .ok (.bipush 7, 2) := by decide +kernel
theorem dX8_usesOf_25 : decode cX8_usesOf 25 = .ok (.iaload, 1) := by decide +kernel
theorem dX8_usesOf_26 : decode cX8_usesOf 26 = .ok (.if_icmp .ge 21, 3) := by decide +kernel
theorem dX8_usesOf_29 : decode cX8_usesOf 29 = .ok (.aload_n 0, 1) := by decide +kernel
theorem dX8_usesOf_30 : decode cX8_usesOf 30 = .ok (.iload_n 3, 1) := by decide +kernel
theorem dX8_usesOf_31 : decode cX8_usesOf 31 = .ok (.invokevirtual 99, 3) := by decide +kernel
theorem dX8_usesOf_34 : decode cX8_usesOf 34 = .ok (.iload_n 1, 1) := by decide +kernel
theorem dX8_usesOf_35 : decode cX8_usesOf 35 = .ok (.if_icmp .ne 6, 3) := by decide +kernel
theorem dX8_usesOf_38 : decode cX8_usesOf 38 = .ok (.iinc 2 1, 3) := by decide +kernel
theorem dX8_usesOf_41 : decode cX8_usesOf 41 = .ok (.iinc 3 1, 3) := by decide +kernel
theorem dX8_usesOf_44 : decode cX8_usesOf 44 = .ok (.goto (-26), 3) := by decide +kernel
theorem dX8_usesOf_47 : decode cX8_usesOf 47 = .ok (.aload_n 0, 1) := by decide +kernel
theorem dX8_usesOf_48 : decode cX8_usesOf 48 = .ok (.iload_n 2, 1) := by decide +kernel
theorem dX8_usesOf_49 : decode cX8_usesOf 49 = .ok (.invokevirtual 55, 3) := by decide +kernel
theorem dX8_usesOf_52 : decode cX8_usesOf 52 = .ok (.ireturn, 1) := by decide +kernel
set_option maxRecDepth 20000 in
theorem ggX8_onTape_X8_areLetters : GoodIn wsX8_onTape wsX8_areLetters := goodIn_r _ [7, 2, 8, 9, 10, 6, 11, 12, 13, 14, 15, 16, 17, 18, 19, 28, 29, 30, 31, 32, 33, 34, 35, 36, 37, 38, 39, 40, 41, 42, 43, 44, 45, 46, 47, 48, 49, 50, 51, 52, 53, 54] (by decide +kernel) (by decide +kernel)
set_option maxRecDepth 20000 in
theorem gX8_onTape_X8_areLetters : GoodIn wsX8_onTape (wsV RX8 156 RX8 yX8_areLetters wsX8_areLetters) := goodIn_app (goodIn_of _ (by decide +kernel)) ggX8_onTape_X8_areLetters
set_option maxRecDepth 20000 in
theorem ggX8_onTape_X8_longer : GoodIn wsX8_onTape wsX8_longer := goodIn_r _ [23, 16, 24, 25, 26, 6, 27, 28, 29, 30, 31, 32, 33, 34, 35, 36, 37, 38, 39, 40, 41, 42, 43, 44, 45, 46, 47, 48, 49, 50, 51, 52, 53, 54] (by decide +kernel) (by decide +kernel)
set_option maxRecDepth 20000 in
theorem gX8_onTape_X8_longer : GoodIn wsX8_onTape (wsV RX8 138 RX8 yX8_longer wsX8_longer) := goodIn_app (goodIn_of _ (by decide +kernel)) ggX8_onTape_X8_longer
theorem dX8_onTape_0 : decode cX8_onTape 0 = .ok (.aload_n 0, 1) := by decide +kernel
theorem dX8_onTape_1 : decode cX8_onTape 1 = .ok (.getfield 153, 3) := by decide +kernel
theorem dX8_onTape_4 : decode cX8_onTape 4 = .ok (.ifCond .eq 15, 3) := by decide +kernel
theorem dX8_onTape_7 : decode cX8_onTape 7 = .ok (.aload_n 0, 1) := by decide +kernel
theorem dX8_onTape_8 : decode cX8_onTape 8 = .ok (.iconst 0, 1) := by decide +kernel
theorem dX8_onTape_9 : decode cX8_onTape 9 = .ok (.aload_n 0, 1) := by decide +kernel
theorem dX8_onTape_10 : decode cX8_onTape 10 = .ok (.getfield 153, 3) := by decide +kernel
theorem dX8_onTape_13 : decode cX8_onTape 13 = .ok (.invokevirtual 156, 3) := by decide +kernel
theorem dX8_onTape_16 : decode cX8_onTape 16 = .ok (.ifCond .ne 5, 3) := by decide +kernel
theorem dX8_onTape_19 : decode cX8_onTape 19 = .ok (.iconst (-1), 1) := by decide +kernel
theorem dX8_onTape_20 : decode cX8_onTape 20 = .ok (.ireturn, 1) := by decide +kernel
theorem dX8_onTape_21 : decode cX8_onTape 21 = .ok (.aload_n 0, 1) := by decide +kernel
theorem dX8_onTape_22 : decode cX8_onTape 22 = .ok (.getfield 7, 3) := by decide +kernel
theorem dX8_onTape_25 : decode cX8_onTape 25 = .ok (.iconst 0, 1) := by decide +kernel
theorem dX8_onTape_26 : decode cX8_onTape 26 = .ok (.baload, 1) := by decide +kernel
theorem dX8_onTape_27 : decode cX8_onTape 27 = .ok (.bipush 97, 2) := by decide +kernel
theorem dX8_onTape_29 : decode cX8_onTape 29 = .ok (.isub, 1) := by decide +kernel
theorem dX8_onTape_30 : decode cX8_onTape 30 = .ok (.istore_n 1, 1) := by decide +kernel
theorem dX8_onTape_31 : decode cX8_onTape 31 = .ok (.iconst 1, 1) := by decide +kernel
theorem dX8_onTape_32 : decode cX8_onTape 32 = .ok (.istore_n 2, 1) := by decide +kernel
theorem dX8_onTape_33 : decode cX8_onTape 33 = .ok (.iload_n 2, 1) := by decide +kernel
theorem dX8_onTape_34 : decode cX8_onTape 34 = .ok (.aload_n 0, 1) := by decide +kernel
theorem dX8_onTape_35 : decode cX8_onTape 35 = .ok (.getfield 153, 3) := by decide +kernel
theorem dX8_onTape_38 : decode cX8_onTape 38 = .ok (.if_icmp .ge 28, 3) := by decide +kernel
theorem dX8_onTape_41 : decode cX8_onTape 41 = .ok (.iload_n 1, 1) := by decide +kernel
theorem dX8_onTape_42 : decode cX8_onTape 42 = .ok (.ifCond .lt 24, 3) := by decide +kernel
theorem dX8_onTape_45 : decode cX8_onTape 45 = .ok (.aload_n 0, 1) := by decide +kernel
theorem dX8_onTape_46 : decode cX8_onTape 46 = .ok (.iload_n 1, 1) := by decide +kernel
theorem dX8_onTape_47 : decode cX8_onTape 47 = .ok (.aload_n 0, 1) := by decide +kernel
theorem dX8_onTape_48 : decode cX8_onTape 48 = .ok (.getfield 7, 3) := by decide +kernel
theorem dX8_onTape_51 : decode cX8_onTape 51 = .ok (.iload_n 2, 1) := by decide +kernel
theorem dX8_onTape_52 : decode cX8_onTape 52 = .ok (.baload, 1) := by decide +kernel
theorem dX8_onTape_53 : decode cX8_onTape 53 = .ok (.bipush 97, 2) := by decide +kernel
theorem dX8_onTape_55 : decode cX8_onTape 55 = .ok (.isub, 1) := by decide +kernel
theorem dX8_onTape_56 : decode cX8_onTape 56 = .ok (.invokevirtual 138, 3) := by decide +kernel
theorem dX8_onTape_59 : decode cX8_onTape 59 = .ok (.istore_n 1, 1) := by decide +kernel
theorem dX8_onTape_60 : decode cX8_onTape 60 = .ok (.iinc 2 1, 3) := by decide +kernel
theorem dX8_onTape_63 : decode cX8_onTape 63 = .ok (.goto (-30), 3) := by decide +kernel
theorem dX8_onTape_66 : decode cX8_onTape 66 = .ok (.iload_n 1, 1) := by decide +kernel
theorem dX8_onTape_67 : decode cX8_onTape 67 = .ok (.ireturn, 1) := by decide +kernel
set_option maxRecDepth 20000 in
theorem ggX8_findTape_X8_onTape : GoodIn wsX8_findTape wsX8_onTape := goodIn_r _ [5, 6, 7, 8, 9, 10, 4, 11, 12, 13, 14, 15, 16, 17, 18, 19, 20, 21, 22, 23, 24, 25, 26, 27, 28, 29, 30, 31, 41, 42, 43, 44, 45, 46, 47, 48, 49, 50, 51, 52, 53, 54, 55, 56, 57, 58, 59, 60, 61, 62, 63, 64, 65, 66, 67] (by decide +kernel) (by decide +kernel)
set_option maxRecDepth 20000 in
theorem gX8_findTape_X8_onTape : GoodIn wsX8_findTape (wsV RX8 326 RX8 yX8_onTape wsX8_onTape) := goodIn_app (goodIn_of _ (by decide +kernel)) ggX8_findTape_X8_onTape
set_option maxRecDepth 20000 in
theorem ggX8_findTape_X8_throwing : GoodIn wsX8_findTape wsX8_throwing := goodIn_r _ [35, 36, 41, 42, 43, 44, 45, 46, 47, 48, 49, 50, 51, 52, 53, 54, 55, 56, 57, 58, 59, 60, 61, 62, 63, 64, 65, 66, 67] (by decide +kernel) (by decide +kernel)
set_option maxRecDepth 20000 in
theorem gX8_findTape_X8_throwing : GoodIn wsX8_findTape (wsV RX8 59 RX8 yX8_throwing wsX8_throwing) := goodIn_app (goodIn_of _ (by decide +kernel)) ggX8_findTape_X8_throwing
set_option maxRecDepth 20000 in
theorem ggX8_findTape_X8_told : GoodIn wsX8_findTape wsX8_told := goodIn_r _ [40, 36, 41, 42, 43, 44, 45, 46, 47, 48, 49, 50, 51, 52, 53, 54, 55, 56, 57, 58, 59, 60, 61, 62, 63, 64, 65, 66, 67] (by decide +kernel) (by decide +kernel)
set_option maxRecDepth 20000 in
theorem gX8_findTape_X8_told : GoodIn wsX8_findTape (wsV RX8 55 RX8 yX8_told wsX8_told) := goodIn_app (goodIn_of _ (by decide +kernel)) ggX8_findTape_X8_told
theorem dX8_findTape_0 : decode cX8_findTape 0 = .ok (.aload_n 0, 1) := by decide +kernel
theorem dX8_findTape_1 : decode cX8_findTape 1 = .ok (.invokevirtual 326, 3) := by decide +kernel
theorem dX8_findTape_4 : decode cX8_findTape 4 = .ok (.istore_n 1, 1) := by decide +kernel
theorem dX8_findTape_5 : decode cX8_findTape 5 = .ok (.iload_n 1, 1) := by decide +kernel
theorem dX8_findTape_6 : decode cX8_findTape 6 = .ok (.ifCond .ge 9, 3) := by decide +kernel
theorem dX8_findTape_9 : decode cX8_findTape 9 = .ok (.aload_n 0, 1) := by decide +kernel
theorem dX8_findTape_10 : decode cX8_findTape 10 = .ok (.iconst 1, 1) := by decide +kernel
theorem dX8_findTape_11 : decode cX8_findTape 11 = .ok (.invokevirtual 59, 3) := by decide +kernel
theorem dX8_findTape_14 : decode cX8_findTape 14 = .ok (.ireturn, 1) := by decide +kernel
theorem dX8_findTape_15 : decode cX8_findTape 15 = .ok (.aload_n 0, 1) := by decide +kernel
theorem dX8_findTape_16 : decode cX8_findTape 16 = .ok (.iload_n 1, 1) := by decide +kernel
theorem dX8_findTape_17 : decode cX8_findTape 17 = .ok (.invokevirtual 55, 3) := by decide +kernel
theorem dX8_findTape_20 : decode cX8_findTape 20 = .ok (.ireturn, 1) := by decide +kernel
set_option maxRecDepth 20000 in
theorem ggX8_hasPhrase_X8_toldIf : GoodIn wsX8_hasPhrase wsX8_toldIf := goodIn_r _ [6, 7, 8, 9, 10, 11, 12, 13, 14, 15, 16, 17, 18, 19, 20, 21, 22, 23, 24, 25, 26, 27, 28, 29, 30, 31, 32, 33, 34] (by decide +kernel) (by decide +kernel)
set_option maxRecDepth 20000 in
theorem gX8_hasPhrase_X8_toldIf : GoodIn wsX8_hasPhrase (wsV RX8 316 RX8 yX8_toldIf wsX8_toldIf) := goodIn_app (goodIn_of _ (by decide +kernel)) ggX8_hasPhrase_X8_toldIf
theorem dX8_hasPhrase_0 : decode cX8_hasPhrase 0 = .ok (.aload_n 0, 1) := by decide +kernel
theorem dX8_hasPhrase_1 : decode cX8_hasPhrase 1 = .ok (.aload_n 0, 1) := by decide +kernel
theorem dX8_hasPhrase_2 : decode cX8_hasPhrase 2 = .ok (.getfield 17, 3) := by decide +kernel
theorem dX8_hasPhrase_5 : decode cX8_hasPhrase 5 = .ok (.iconst 5, 1) := by decide +kernel
theorem dX8_hasPhrase_6 : decode cX8_hasPhrase 6 = .ok (.iaload, 1) := by decide +kernel
theorem dX8_hasPhrase_7 : decode cX8_hasPhrase 7 = .ok (.ifCond .le 7, 3) := by decide +kernel
theorem dX8_hasPhrase_10 : decode cX8_hasPhrase 10 = .ok (.iconst 1, 1) := by decide +kernel
theorem dX8_hasPhrase_11 : decode cX8_hasPhrase 11 = .ok (.goto 4, 3) := by decide +kernel
theorem dX8_hasPhrase_14 : decode cX8_hasPhrase 14 = .ok (.iconst 0, 1) := by decide +kernel
theorem dX8_hasPhrase_15 : decode cX8_hasPhrase 15 = .ok (.invokevirtual 316, 3) := by decide +kernel
theorem dX8_hasPhrase_18 : decode cX8_hasPhrase 18 = .ok (.ireturn, 1) := by decide +kernel
set_option maxRecDepth 20000 in
theorem ggX8_currentPhrase_X8_throwing : GoodIn wsX8_currentPhrase wsX8_throwing := goodIn_r _ [6, 7, 12, 13, 14, 15, 16, 17, 18, 19, 20, 21, 22, 23, 24, 25, 26, 27, 28, 29, 30, 31, 32, 33, 34, 35, 36, 37, 38] (by decide +kernel) (by decide +kernel)
set_option maxRecDepth 20000 in
theorem gX8_currentPhrase_X8_throwing : GoodIn wsX8_currentPhrase (wsV RX8 59 RX8 yX8_throwing wsX8_throwing) := goodIn_app (goodIn_of _ (by decide +kernel)) ggX8_currentPhrase_X8_throwing
set_option maxRecDepth 20000 in
theorem ggX8_currentPhrase_X8_told : GoodIn wsX8_currentPhrase wsX8_told := goodIn_r _ [11, 7, 12, 13, 14, 15, 16, 17, 18, 19, 20, 21, 22, 23, 24, 25, 26, 27, 28, 29, 30, 31, 32, 33, 34, 35, 36, 37, 38] (by decide +kernel) (by decide +kernel)
set_option maxRecDepth 20000 in
theorem gX8_currentPhrase_X8_told : GoodIn wsX8_currentPhrase (wsV RX8 55 RX8 yX8_told wsX8_told) := goodIn_app (goodIn_of _ (by decide +kernel)) ggX8_currentPhrase_X8_told
theorem dX8_currentPhrase_0 : decode cX8_currentPhrase 0 = .ok (.aload_n 0, 1) := by decide +kernel
theorem dX8_currentPhrase_1 : decode cX8_currentPhrase 1 = .ok (.getfield 17, 3) := by decide +kernel
theorem dX8_currentPhrase_4 : decode cX8_currentPhrase 4 = .ok (.iconst 5, 1) := by decide +kernel
theorem dX8_currentPhrase_5 : decode cX8_currentPhrase 5 = .ok (.iaload, 1) := by decide +kernel
theorem dX8_currentPhrase_6 : decode cX8_currentPhrase 6 = .ok (.ifCond .ne 9, 3) := by decide +kernel
theorem dX8_currentPhrase_9 : decode cX8_currentPhrase 9 = .ok (.aload_n 0, 1) := by decide +kernel
theorem dX8_currentPhrase_10 : decode cX8_currentPhrase 10 = .ok (.iconst 1, 1) := by decide +kernel
theorem dX8_currentPhrase_11 : decode cX8_currentPhrase 11 = .ok (.invokevirtual 59, 3) := by decide +kernel
theorem dX8_currentPhrase_14 : decode cX8_currentPhrase 14 = .ok (.ireturn, 1) := by decide +kernel
theorem dX8_currentPhrase_15 : decode cX8_currentPhrase 15 = .ok (.aload_n 0, 1) := by decide +kernel
theorem dX8_currentPhrase_16 : decode cX8_currentPhrase 16 = .ok (.aload_n 0, 1) := by decide +kernel
theorem dX8_currentPhrase_17 : decode cX8_currentPhrase 17 = .ok (.getfield 17, 3) := by decide +kernel
theorem dX8_currentPhrase_20 : decode cX8_currentPhrase 20 = .ok (.iconst 5, 1) := by decide +kernel
theorem dX8_currentPhrase_21 : decode cX8_currentPhrase 21 = .ok (.iaload, 1) := by decide +kernel
theorem dX8_currentPhrase_22 : decode cX8_currentPhrase 22 = .ok (.iconst 1, 1) := by decide +kernel
theorem dX8_currentPhrase_23 : decode cX8_currentPhrase 23 = .ok (.isub, 1) := by decide +kernel
theorem dX8_currentPhrase_24 : decode cX8_currentPhrase 24 = .ok (.invokevirtual 55, 3) := by decide +kernel
theorem dX8_currentPhrase_27 : decode cX8_currentPhrase 27 = .ok (.ireturn, 1) := by decide +kernel
set_option maxRecDepth 20000 in
theorem ggX8_wouldEnd_X8_longer : GoodIn wsX8_wouldEnd wsX8_longer := goodIn_r _ [6, 1, 7, 8, 9, 5, 10, 11, 12, 13, 14, 15, 16, 17, 18, 19, 20, 21, 22, 23, 24, 25, 26, 27, 28, 29, 30, 31, 32, 33, 34, 35, 36, 37] (by decide +kernel) (by decide +kernel)
set_option maxRecDepth 20000 in
theorem gX8_wouldEnd_X8_longer : GoodIn wsX8_wouldEnd (wsV RX8 138 RX8 yX8_longer wsX8_longer) := goodIn_app (goodIn_of _ (by decide +kernel)) ggX8_wouldEnd_X8_longer
theorem dX8_wouldEnd_0 : decode cX8_wouldEnd 0 = .ok (.aload_n 0, 1) := by decide +kernel
theorem dX8_wouldEnd_1 : decode cX8_wouldEnd 1 = .ok (.getfield 17, 3) := by decide +kernel
theorem dX8_wouldEnd_4 : decode cX8_wouldEnd 4 = .ok (.iconst 5, 1) := by decide +kernel
theorem dX8_wouldEnd_5 : decode cX8_wouldEnd 5 = .ok (.iaload, 1) := by decide +kernel
theorem dX8_wouldEnd_6 : decode cX8_wouldEnd 6 = .ok (.iconst 1, 1) := by decide +kernel
theorem dX8_wouldEnd_7 : decode cX8_wouldEnd 7 = .ok (.isub, 1) := by decide +kernel
theorem dX8_wouldEnd_8 : decode cX8_wouldEnd 8 = .ok (.istore_n 2, 1) := by decide +kernel
theorem dX8_wouldEnd_9 : decode cX8_wouldEnd 9 = .ok (.iload_n 2, 1) := by decide +kernel
theorem dX8_wouldEnd_10 : decode cX8_wouldEnd 10 = .ok (.ifCond .ge 5, 3) := by decide +kernel
theorem dX8_wouldEnd_13 : decode cX8_wouldEnd 13 = .ok (.iconst 0, 1) := by decide +kernel
theorem dX8_wouldEnd_14 : decode cX8_wouldEnd 14 = .ok (.ireturn, 1) := by decide +kernel
theorem dX8_wouldEnd_15 : decode cX8_wouldEnd 15 = .ok (.aload_n 0, 1) := by decide +kernel
theorem dX8_wouldEnd_16 : decode cX8_wouldEnd 16 = .ok (.iload_n 2, 1) := by decide +kernel
theorem dX8_wouldEnd_17 : decode cX8_wouldEnd 17 = .ok (.iload_n 1, 1) := by decide +kernel
theorem dX8_wouldEnd_18 : decode cX8_wouldEnd 18 = .ok (.invokevirtual 138, 3) := by decide +kernel
theorem dX8_wouldEnd_21 : decode cX8_wouldEnd 21 = .ok (.ifCond .ge 7, 3) := by decide +kernel
theorem dX8_wouldEnd_24 : decode cX8_wouldEnd 24 = .ok (.iconst 1, 1) := by decide +kernel
theorem dX8_wouldEnd_25 : decode cX8_wouldEnd 25 = .ok (.goto 4, 3) := by decide +kernel
theorem dX8_wouldEnd_28 : decode cX8_wouldEnd 28 = .ok (.iconst 0, 1) := by decide +kernel
theorem dX8_wouldEnd_29 : decode cX8_wouldEnd 29 = .ok (.ireturn, 1) := by decide +kernel
set_option maxRecDepth 20000 in
theorem ggX8_wouldClear_X8_isAllFull : GoodIn wsX8_wouldClear wsX8_isAllFull := goodIn_r _ [6, 1, 7, 8, 9, 5, 10, 54, 55, 56, 57, 58, 59, 60, 61, 62, 63, 64, 65, 66, 67, 68, 69, 70, 71, 72, 73, 74, 75, 76, 77, 78, 79, 80] (by decide +kernel) (by decide +kernel)
set_option maxRecDepth 20000 in
theorem gX8_wouldClear_X8_isAllFull : GoodIn wsX8_wouldClear (wsV RX8 121 RX8 yX8_isAllFull wsX8_isAllFull) := goodIn_app (goodIn_of _ (by decide +kernel)) ggX8_wouldClear_X8_isAllFull
set_option maxRecDepth 20000 in
theorem ggX8_wouldClear_X8_bitsSince : GoodIn wsX8_wouldClear wsX8_bitsSince := goodIn_r _ [14, 1, 15, 16, 17, 5, 18, 19, 20, 21, 22, 54, 55, 56, 57, 58, 59, 60, 61, 62, 63, 64, 65, 66, 67, 68, 69, 70, 71, 72, 73, 74, 75, 76, 77, 78, 79, 80] (by decide +kernel) (by decide +kernel)
set_option maxRecDepth 20000 in
theorem gX8_wouldClear_X8_bitsSince : GoodIn wsX8_wouldClear (wsV RX8 111 RX8 yX8_bitsSince wsX8_bitsSince) := goodIn_app (goodIn_of _ (by decide +kernel)) ggX8_wouldClear_X8_bitsSince
set_option maxRecDepth 20000 in
theorem ggX8_wouldClear_X8_bitsFor : GoodIn wsX8_wouldClear wsX8_bitsFor := goodIn_r _ [25] (by decide +kernel) (by decide +kernel)
set_option maxRecDepth 20000 in
theorem gX8_wouldClear_X8_bitsFor : GoodIn wsX8_wouldClear (va_wsS RX8 89 yX8_bitsFor wsX8_bitsFor) := goodIn_app (goodIn_of _ (by decide +kernel)) ggX8_wouldClear_X8_bitsFor
set_option maxRecDepth 20000 in
theorem ggX8_wouldClear_X8_symbolsSince : GoodIn wsX8_wouldClear wsX8_symbolsSince := goodIn_r _ [29, 1, 30, 31, 32, 5, 33, 34, 35, 36, 37, 38, 39, 40, 41, 42, 43, 44, 45, 54, 55, 56, 57, 58, 59, 60, 61, 62, 63, 64, 65, 66, 67, 68, 69, 70, 71, 72, 73, 74, 75, 76, 77, 78, 79, 80] (by decide +kernel) (by decide +kernel)
set_option maxRecDepth 20000 in
theorem gX8_wouldClear_X8_symbolsSince : GoodIn wsX8_wouldClear (wsV RX8 114 RX8 yX8_symbolsSince wsX8_symbolsSince) := goodIn_app (goodIn_of _ (by decide +kernel)) ggX8_wouldClear_X8_symbolsSince
set_option maxRecDepth 20000 in
theorem ggX8_wouldClear_X8_lengthOf : GoodIn wsX8_wouldClear wsX8_lengthOf := goodIn_r _ [37, 1, 38, 39, 40, 5, 41, 42, 43, 44, 45, 54, 55, 56, 57, 58, 59, 60, 61, 62, 63, 64, 65, 66, 67, 68, 69, 70, 71, 72, 73, 74, 75, 76, 77, 78, 79, 80] (by decide +kernel) (by decide +kernel)
set_option maxRecDepth 20000 in
theorem gX8_wouldClear_X8_lengthOf : GoodIn wsX8_wouldClear (wsV RX8 86 RX8 yX8_lengthOf wsX8_lengthOf) := goodIn_app (goodIn_of _ (by decide +kernel)) ggX8_wouldClear_X8_lengthOf
set_option maxRecDepth 20000 in
theorem ggX8_wouldClear_X8_percentOf : GoodIn wsX8_wouldClear wsX8_percentOf := goodIn_r _ [49, 50, 51, 52, 5, 53, 1, 23, 24, 25, 54, 55, 56, 57, 58, 59, 60, 61, 62, 63, 64, 65, 66, 67, 68, 69, 70, 71, 72, 73, 74, 75, 76, 77, 78, 79, 80] (by decide +kernel) (by decide +kernel)
set_option maxRecDepth 20000 in
theorem gX8_wouldClear_X8_percentOf : GoodIn wsX8_wouldClear (wsV RX8 117 RX8 yX8_percentOf wsX8_percentOf) := goodIn_app (goodIn_of _ (by decide +kernel)) ggX8_wouldClear_X8_percentOf
theorem dX8_wouldClear_0 : decode cX8_wouldClear 0 = .ok (.aload_n 0, 1) := by decide +kernel
theorem dX8_wouldClear_1 : decode cX8_wouldClear 1 = .ok (.invokevirtual 121, 3) := by decide +kernel
theorem dX8_wouldClear_4 : decode cX8_wouldClear 4 = .ok (.ifCond .ne 5, 3) := by decide +kernel
theorem dX8_wouldClear_7 : decode cX8_wouldClear 7 = .ok (.iconst 0, 1) := by decide +kernel
theorem dX8_wouldClear_8 : decode cX8_wouldClear 8 = .ok (.ireturn, 1) := by decide +kernel
theorem dX8_wouldClear_9 : decode cX8_wouldClear 9 = .ok (.aload_n 0, 1) := by decide +kernel
theorem dX8_wouldClear_10 : decode cX8_wouldClear 10 = .ok (.getfield 17, 3) := by decide +kernel
theorem dX8_wouldClear_13 : decode cX8_wouldClear 13 = .ok (.iconst 2, 1) := by decide +kernel
theorem dX8_wouldClear_14 : decode cX8_wouldClear 14 = .ok (.iaload, 1) := by decide +kernel
theorem dX8_wouldClear_15 : decode cX8_wouldClear 15 = .ok (.iconst 2, 1) := by decide +kernel
theorem dX8_wouldClear_16 : decode cX8_wouldClear 16 = .ok (.if_icmp .eq 19, 3) := by decide +kernel
theorem dX8_wouldClear_19 : decode cX8_wouldClear 19 = .ok (.aload_n 0, 1) := by decide +kernel
theorem dX8_wouldClear_20 : decode cX8_wouldClear 20 = .ok (.getfield 17, 3) := by decide +kernel
theorem dX8_wouldClear_23 : decode cX8_wouldClear 23 = .ok (.iconst 2, 1) := by decide +kernel
theorem dX8_wouldClear_24 : decode cX8_wouldClear 24 = .ok (.iaload, 1) := by decide +kernel
theorem dX8_wouldClear_25 : decode cX8_wouldClear 25 = .ok (.iconst 1, 1) := by decide +kernel
theorem dX8_wouldClear_26 : decode cX8_wouldClear 26 = .ok (.if_icmp .ne 7, 3) := by decide +kernel
theorem dX8_wouldClear_29 : decode cX8_wouldClear 29 = .ok (.iconst 1, 1) := by decide +kernel
theorem dX8_wouldClear_30 : decode cX8_wouldClear 30 = .ok (.goto 4, 3) := by decide +kernel
theorem dX8_wouldClear_33 : decode cX8_wouldClear 33 = .ok (.iconst 0, 1) := by decide +kernel
theorem dX8_wouldClear_34 : decode cX8_wouldClear 34 = .ok (.ireturn, 1) := by decide +kernel
theorem dX8_wouldClear_35 : decode cX8_wouldClear 35 = .ok (.aload_n 0, 1) := by decide +kernel
theorem dX8_wouldClear_36 : decode cX8_wouldClear 36 = .ok (.invokevirtual 111, 3) := by decide +kernel
theorem dX8_wouldClear_39 : decode cX8_wouldClear 39 = .ok (.aload_n 0, 1) := by decide +kernel
theorem dX8_wouldClear_40 : decode cX8_wouldClear 40 = .ok (.getfield 17, 3) := by decide +kernel
theorem dX8_wouldClear_43 : decode cX8_wouldClear 43 = .ok (.iconst 4, 1) := by decide +kernel
theorem dX8_wouldClear_44 : decode cX8_wouldClear 44 = .ok (.iaload, 1) := by decide +kernel
theorem dX8_wouldClear_45 : decode cX8_wouldClear 45 = .ok (.invokestatic 89, 3) := by decide +kernel
theorem dX8_wouldClear_48 : decode cX8_wouldClear 48 = .ok (.iadd, 1) := by decide +kernel
theorem dX8_wouldClear_49 : decode cX8_wouldClear 49 = .ok (.istore_n 1, 1) := by decide +kernel
theorem dX8_wouldClear_50 : decode cX8_wouldClear 50 = .ok (.aload_n 0, 1) := by decide +kernel
theorem dX8_wouldClear_51 : decode cX8_wouldClear 51 = .ok (.invokevirtual 114, 3) := by decide +kernel
theorem dX8_wouldClear_54 : decode cX8_wouldClear 54 = .ok (.aload_n 0, 1) := by decide +kernel
theorem dX8_wouldClear_55 : decode cX8_wouldClear 55 = .ok (.aload_n 0, 1) := by decide +kernel
theorem dX8_wouldClear_56 : decode cX8_wouldClear 56 = .ok (.getfield 17, 3) := by decide +kernel
theorem dX8_wouldClear_59 : decode cX8_wouldClear 59 = .ok (.iconst 5, 1) := by decide +kernel
theorem dX8_wouldClear_60 : decode cX8_wouldClear 60 = .ok (.iaload, 1) := by decide +kernel
theorem dX8_wouldClear_61 : decode cX8_wouldClear 61 = .ok (.iconst 1, 1) := by decide +kernel
theorem dX8_wouldClear_62 : decode cX8_wouldClear 62 = .ok (.isub, 1) := by decide +kernel
theorem dX8_wouldClear_63 : decode cX8_wouldClear 63 = .ok (.invokevirtual 86, 3) := by decide +kernel
theorem dX8_wouldClear_66 : decode cX8_wouldClear 66 = .ok (.iadd, 1) := by decide +kernel
theorem dX8_wouldClear_67 : decode cX8_wouldClear 67 = .ok (.istore_n 2, 1) := by decide +kernel
theorem dX8_wouldClear_68 : decode cX8_wouldClear 68 = .ok (.aload_n 0, 1) := by decide +kernel
theorem dX8_wouldClear_69 : decode cX8_wouldClear 69 = .ok (.iload_n 1, 1) := by decide +kernel
theorem dX8_wouldClear_70 : decode cX8_wouldClear 70 = .ok (.iload_n 2, 1) := by decide +kernel
theorem dX8_wouldClear_71 : decode cX8_wouldClear 71 = .ok (.invokevirtual 117, 3) := by decide +kernel
theorem dX8_wouldClear_74 : decode cX8_wouldClear 74 = .ok (.aload_n 0, 1) := by decide +kernel
theorem dX8_wouldClear_75 : decode cX8_wouldClear 75 = .ok (.getfield 17, 3) := by decide +kernel
theorem dX8_wouldClear_78 : decode cX8_wouldClear 78 = .ok (.iconst 3, 1) := by decide +kernel
theorem dX8_wouldClear_79 : decode cX8_wouldClear 79 = .ok (.iaload, 1) := by decide +kernel
theorem dX8_wouldClear_80 : decode cX8_wouldClear 80 = .ok (.if_icmp .le 7, 3) := by decide +kernel
theorem dX8_wouldClear_83 : decode cX8_wouldClear 83 = .ok (.iconst 1, 1) := by decide +kernel
theorem dX8_wouldClear_84 : decode cX8_wouldClear 84 = .ok (.goto 4, 3) := by decide +kernel
theorem dX8_wouldClear_87 : decode cX8_wouldClear 87 = .ok (.iconst 0, 1) := by decide +kernel
theorem dX8_wouldClear_88 : decode cX8_wouldClear 88 = .ok (.ireturn, 1) := by decide +kernel
set_option maxRecDepth 20000 in
theorem ggX8_clearsBy_X8_wouldEnd : GoodIn wsX8_clearsBy wsX8_wouldEnd := goodIn_r _ [5, 6, 7, 8, 9, 4, 10, 11, 12, 13, 14, 66, 67, 68, 69, 70, 71, 72, 73, 74, 75, 76, 77, 78, 79, 80, 81, 82, 83, 84, 85, 86, 87, 88, 89, 90, 91, 92] (by decide +kernel) (by decide +kernel)
set_option maxRecDepth 20000 in
theorem gX8_clearsBy_X8_wouldEnd : GoodIn wsX8_clearsBy (wsV RX8 329 RX8 yX8_wouldEnd wsX8_wouldEnd) := goodIn_app (goodIn_of _ (by decide +kernel)) ggX8_clearsBy_X8_wouldEnd
set_option maxRecDepth 20000 in
theorem ggX8_clearsBy_X8_wouldClear : GoodIn wsX8_clearsBy wsX8_wouldClear := goodIn_r _ [18, 6, 19, 20, 21, 4, 22, 23, 24, 25, 26, 27, 28, 29, 30, 31, 32, 33, 34, 35, 36, 37, 38, 39, 40, 41, 42, 43, 44, 45, 46, 47, 48, 49, 50, 51, 52, 53, 11, 12, 13, 14, 54, 55, 56, 57, 58, 59, 60, 61, 62, 63, 64, 65, 66, 67, 68, 69, 70, 71, 72, 73, 74, 75, 76, 77, 78, 79, 80, 81, 82, 83, 84, 85, 86, 87, 88, 89, 90, 91, 92] (by decide +kernel) (by decide +kernel)
set_option maxRecDepth 20000 in
theorem gX8_clearsBy_X8_wouldClear : GoodIn wsX8_clearsBy (wsV RX8 332 RX8 yX8_wouldClear wsX8_wouldClear) := goodIn_app (goodIn_of _ (by decide +kernel)) ggX8_clearsBy_X8_wouldClear
theorem dX8_clearsBy_0 : decode cX8_clearsBy 0 = .ok (.aload_n 0, 1) := by decide +kernel
theorem dX8_clearsBy_1 : decode cX8_clearsBy 1 = .ok (.iload_n 1, 1) := by decide +kernel
theorem dX8_clearsBy_2 : decode cX8_clearsBy 2 = .ok (.invokevirtual 329, 3) := by decide +kernel
theorem dX8_clearsBy_5 : decode cX8_clearsBy 5 = .ok (.ifCond .ne 5, 3) := by decide +kernel
theorem dX8_clearsBy_8 : decode cX8_clearsBy 8 = .ok (.iconst 0, 1) := by decide +kernel
theorem dX8_clearsBy_9 : decode cX8_clearsBy 9 = .ok (.ireturn, 1) := by decide +kernel
theorem dX8_clearsBy_10 : decode cX8_clearsBy 10 = .ok (.aload_n 0, 1) := by decide +kernel
theorem dX8_clearsBy_11 : decode cX8_clearsBy 11 = .ok (.invokevirtual 332, 3) := by decide +kernel
theorem dX8_clearsBy_14 : decode cX8_clearsBy 14 = .ok (.ifCond .eq 7, 3) := by decide +kernel
theorem dX8_clearsBy_17 : decode cX8_clearsBy 17 = .ok (.iconst 1, 1) := by decide +kernel
theorem dX8_clearsBy_18 : decode cX8_clearsBy 18 = .ok (.goto 4, 3) := by decide +kernel
theorem dX8_clearsBy_21 : decode cX8_clearsBy 21 = .ok (.iconst 0, 1) := by decide +kernel
theorem dX8_clearsBy_22 : decode cX8_clearsBy 22 = .ok (.ireturn, 1) := by decide +kernel
set_option maxRecDepth 20000 in
theorem ggX8_codesBy_X8_wouldEnd : GoodIn wsX8_codesBy wsX8_wouldEnd := goodIn_r _ [5, 6, 7, 8, 9, 4, 10, 11, 12, 13, 14, 70, 71, 72, 73, 74, 75, 76, 77, 78, 79, 80, 81, 82, 83, 84, 85, 86, 87, 88, 89, 90, 91, 92, 93, 94, 95, 96] (by decide +kernel) (by decide +kernel)
set_option maxRecDepth 20000 in
theorem gX8_codesBy_X8_wouldEnd : GoodIn wsX8_codesBy (wsV RX8 329 RX8 yX8_wouldEnd wsX8_wouldEnd) := goodIn_app (goodIn_of _ (by decide +kernel)) ggX8_codesBy_X8_wouldEnd
set_option maxRecDepth 20000 in
theorem ggX8_codesBy_X8_clearsBy : GoodIn wsX8_codesBy wsX8_clearsBy := goodIn_r _ [18, 1, 2, 3, 4, 5, 6, 7, 8, 9, 10, 11, 12, 13, 14, 19, 20, 21, 22, 23, 24, 25, 26, 27, 28, 29, 30, 31, 32, 33, 34, 35, 36, 37, 38, 39, 40, 41, 42, 43, 44, 45, 46, 47, 48, 49, 50, 51, 52, 53, 54, 55, 56, 57, 58, 59, 60, 61, 62, 63, 64, 65, 66, 67, 68, 69, 70, 71, 72, 73, 74, 75, 76, 77, 78, 79, 80, 81, 82, 83, 84, 85, 86, 87, 88, 89, 90, 91, 92, 93, 94, 95, 96] (by decide +kernel) (by decide +kernel)
set_option maxRecDepth 20000 in
theorem gX8_codesBy_X8_clearsBy : GoodIn wsX8_codesBy (wsV RX8 335 RX8 yX8_clearsBy wsX8_clearsBy) := goodIn_app (goodIn_of _ (by decide +kernel)) ggX8_codesBy_X8_clearsBy
theorem dX8_codesBy_0 : decode cX8_codesBy 0 = .ok (.aload_n 0, 1) := by decide +kernel
theorem dX8_codesBy_1 : decode cX8_codesBy 1 = .ok (.iload_n 1, 1) := by decide +kernel
theorem dX8_codesBy_2 : decode cX8_codesBy 2 = .ok (.invokevirtual 329, 3) := by decide +kernel
theorem dX8_codesBy_5 : decode cX8_codesBy 5 = .ok (.ifCond .ne 5, 3) := by decide +kernel
theorem dX8_codesBy_8 : decode cX8_codesBy 8 = .ok (.iconst 0, 1) := by decide +kernel
theorem dX8_codesBy_9 : decode cX8_codesBy 9 = .ok (.ireturn, 1) := by decide +kernel
theorem dX8_codesBy_10 : decode cX8_codesBy 10 = .ok (.iconst 1, 1) := by decide +kernel
theorem dX8_codesBy_11 : decode cX8_codesBy 11 = .ok (.aload_n 0, 1) := by decide +kernel
theorem dX8_codesBy_12 : decode cX8_codesBy 12 = .ok (.iload_n 1, 1) := by decide +kernel
theorem dX8_codesBy_13 : decode cX8_codesBy 13 = .ok (.invokevirtual 335, 3) := by decide +kernel
theorem dX8_codesBy_16 : decode cX8_codesBy 16 = .ok (.iadd, 1) := by decide +kernel
theorem dX8_codesBy_17 : decode cX8_codesBy 17 = .ok (.ireturn, 1) := by decide +kernel
set_option maxRecDepth 20000 in
theorem ggX8_codesIfEncoded_X8_isSymbol : GoodIn wsX8_codesIfEncoded wsX8_isSymbol := goodIn_r _ [5, 6, 7, 8, 4, 9, 90, 91, 92, 93, 94, 95, 96, 97, 98, 99, 100, 101, 102, 103, 104, 105, 106, 107, 108, 109, 110, 111, 112, 113, 114, 115, 116] (by decide +kernel) (by decide +kernel)
set_option maxRecDepth 20000 in
theorem gX8_codesIfEncoded_X8_isSymbol : GoodIn wsX8_codesIfEncoded (wsV RX8 144 RX8 yX8_isSymbol wsX8_isSymbol) := goodIn_app (goodIn_of _ (by decide +kernel)) ggX8_codesIfEncoded_X8_isSymbol
set_option maxRecDepth 20000 in
theorem ggX8_codesIfEncoded_X8_throwing : GoodIn wsX8_codesIfEncoded wsX8_throwing := goodIn_r _ [13, 14, 90, 91, 92, 93, 94, 95, 96, 97, 98, 99, 100, 101, 102, 103, 104, 105, 106, 107, 108, 109, 110, 111, 112, 113, 114, 115, 116] (by decide +kernel) (by decide +kernel)
set_option maxRecDepth 20000 in
theorem gX8_codesIfEncoded_X8_throwing : GoodIn wsX8_codesIfEncoded (wsV RX8 59 RX8 yX8_throwing wsX8_throwing) := goodIn_app (goodIn_of _ (by decide +kernel)) ggX8_codesIfEncoded_X8_throwing
set_option maxRecDepth 20000 in
theorem ggX8_codesIfEncoded_X8_codesBy : GoodIn wsX8_codesIfEncoded wsX8_codesBy := goodIn_r _ [18, 19, 20, 21, 4, 22, 6, 23, 24, 25, 26, 27, 28, 29, 30, 31, 32, 33, 34, 35, 36, 37, 38, 39, 40, 41, 42, 43, 44, 45, 46, 47, 48, 49, 50, 51, 52, 53, 54, 55, 56, 57, 58, 59, 60, 61, 62, 63, 64, 65, 66, 67, 68, 69, 70, 71, 72, 73, 74, 75, 76, 77, 78, 79, 80, 81, 82, 83, 84, 85, 90, 91, 92, 93, 94, 95, 96, 97, 98, 99, 100, 101, 102, 103, 104, 105, 106, 107, 108, 109, 110, 111, 112, 113, 114, 115, 116] (by decide +kernel) (by decide +kernel)
set_option maxRecDepth 20000 in
theorem gX8_codesIfEncoded_X8_codesBy : GoodIn wsX8_codesIfEncoded (wsV RX8 338 RX8 yX8_codesBy wsX8_codesBy) := goodIn_app (goodIn_of _ (by decide +kernel)) ggX8_codesIfEncoded_X8_codesBy
set_option maxRecDepth 20000 in
theorem ggX8_codesIfEncoded_X8_told : GoodIn wsX8_codesIfEncoded wsX8_told := goodIn_r _ [89, 14, 90, 91, 92, 93, 94, 95, 96, 97, 98, 99, 100, 101, 102, 103, 104, 105, 106, 107, 108, 109, 110, 111, 112, 113, 114, 115, 116] (by decide +kernel) (by decide +kernel)
set_option maxRecDepth 20000 in
theorem gX8_codesIfEncoded_X8_told : GoodIn wsX8_codesIfEncoded (wsV RX8 55 RX8 yX8_told wsX8_told) := goodIn_app (goodIn_of _ (by decide +kernel)) ggX8_codesIfEncoded_X8_told
theorem dX8_codesIfEncoded_0 : decode cX8_codesIfEncoded 0 = .ok (.aload_n 0, 1) := by decide +kernel
theorem dX8_codesIfEncoded_1 : decode cX8_codesIfEncoded 1 = .ok (.iload_n 1, 1) := by decide +kernel
theorem dX8_codesIfEncoded_2 : decode cX8_codesIfEncoded 2 = .ok (.invokevirtual 144, 3) := by decide +kernel
theorem dX8_codesIfEncoded_5 : decode cX8_codesIfEncoded 5 = .ok (.ifCond .ne 9, 3) := by decide +kernel
theorem dX8_codesIfEncoded_8 : decode cX8_codesIfEncoded 8 = .ok (.aload_n 0, 1) := by decide +kernel
theorem dX8_codesIfEncoded_9 : decode cX8_codesIfEncoded 9 = .ok (.iconst 1, 1) := by decide +kernel
theorem dX8_codesIfEncoded_10 : decode cX8_codesIfEncoded 10 = .ok (.invokevirtual 59, 3) := by decide +kernel
theorem dX8_codesIfEncoded_13 : decode cX8_codesIfEncoded 13 = .ok (.ireturn, 1) := by decide +kernel
theorem dX8_codesIfEncoded_14 : decode cX8_codesIfEncoded 14 = .ok (.aload_n 0, 1) := by decide +kernel
theorem dX8_codesIfEncoded_15 : decode cX8_codesIfEncoded 15 = .ok (.aload_n 0, 1) := by decide +kernel
theorem dX8_codesIfEncoded_16 : decode cX8_codesIfEncoded 16 = .ok (.iload_n 1, 1) := by decide +kernel
theorem dX8_codesIfEncoded_17 : decode cX8_codesIfEncoded 17 = .ok (.invokevirtual 338, 3) := by decide +kernel
theorem dX8_codesIfEncoded_20 : decode cX8_codesIfEncoded 20 = .ok (.invokevirtual 55, 3) := by decide +kernel
theorem dX8_codesIfEncoded_23 : decode cX8_codesIfEncoded 23 = .ok (.ireturn, 1) := by decide +kernel
set_option maxRecDepth 20000 in
theorem ggX8_clearsIfEncoded_X8_isSymbol : GoodIn wsX8_clearsIfEncoded wsX8_isSymbol := goodIn_r _ [5, 6, 7, 8, 4, 9, 86, 87, 88, 89, 90, 91, 92, 93, 94, 95, 96, 97, 98, 99, 100, 101, 102, 103, 104, 105, 106, 107, 108, 109, 110, 111, 112] (by decide +kernel) (by decide +kernel)
set_option maxRecDepth 20000 in
theorem gX8_clearsIfEncoded_X8_isSymbol : GoodIn wsX8_clearsIfEncoded (wsV RX8 144 RX8 yX8_isSymbol wsX8_isSymbol) := goodIn_app (goodIn_of _ (by decide +kernel)) ggX8_clearsIfEncoded_X8_isSymbol
set_option maxRecDepth 20000 in
theorem ggX8_clearsIfEncoded_X8_throwing : GoodIn wsX8_clearsIfEncoded wsX8_throwing := goodIn_r _ [13, 14, 86, 87, 88, 89, 90, 91, 92, 93, 94, 95, 96, 97, 98, 99, 100, 101, 102, 103, 104, 105, 106, 107, 108, 109, 110, 111, 112] (by decide +kernel) (by decide +kernel)
set_option maxRecDepth 20000 in
theorem gX8_clearsIfEncoded_X8_throwing : GoodIn wsX8_clearsIfEncoded (wsV RX8 59 RX8 yX8_throwing wsX8_throwing) := goodIn_app (goodIn_of _ (by decide +kernel)) ggX8_clearsIfEncoded_X8_throwing
set_option maxRecDepth 20000 in
theorem ggX8_clearsIfEncoded_X8_clearsBy : GoodIn wsX8_clearsIfEncoded wsX8_clearsBy := goodIn_r _ [18, 19, 20, 21, 4, 22, 6, 23, 24, 25, 26, 27, 28, 29, 30, 31, 32, 33, 34, 35, 36, 37, 38, 39, 40, 41, 42, 43, 44, 45, 46, 47, 48, 49, 50, 51, 52, 53, 54, 55, 56, 57, 58, 59, 60, 61, 62, 63, 64, 65, 66, 67, 68, 69, 70, 71, 72, 73, 74, 75, 76, 77, 78, 79, 80, 81, 86, 87, 88, 89, 90, 91, 92, 93, 94, 95, 96, 97, 98, 99, 100, 101, 102, 103, 104, 105, 106, 107, 108, 109, 110, 111, 112] (by decide +kernel) (by decide +kernel)
set_option maxRecDepth 20000 in
theorem gX8_clearsIfEncoded_X8_clearsBy : GoodIn wsX8_clearsIfEncoded (wsV RX8 335 RX8 yX8_clearsBy wsX8_clearsBy) := goodIn_app (goodIn_of _ (by decide +kernel)) ggX8_clearsIfEncoded_X8_clearsBy
set_option maxRecDepth 20000 in
theorem ggX8_clearsIfEncoded_X8_told : GoodIn wsX8_clearsIfEncoded wsX8_told := goodIn_r _ [85, 14, 86, 87, 88, 89, 90, 91, 92, 93, 94, 95, 96, 97, 98, 99, 100, 101, 102, 103, 104, 105, 106, 107, 108, 109, 110, 111, 112] (by decide +kernel) (by decide +kernel)
set_option maxRecDepth 20000 in
theorem gX8_clearsIfEncoded_X8_told : GoodIn wsX8_clearsIfEncoded (wsV RX8 55 RX8 yX8_told wsX8_told) := goodIn_app (goodIn_of _ (by decide +kernel)) ggX8_clearsIfEncoded_X8_told
theorem dX8_clearsIfEncoded_0 : decode cX8_clearsIfEncoded 0 = .ok (.aload_n 0, 1) := by decide +kernel
theorem dX8_clearsIfEncoded_1 : decode cX8_clearsIfEncoded 1 = .ok (.iload_n 1, 1) := by decide +kernel
theorem dX8_clearsIfEncoded_2 : decode cX8_clearsIfEncoded 2 = .ok (.invokevirtual 144, 3) := by decide +kernel
theorem dX8_clearsIfEncoded_5 : decode cX8_clearsIfEncoded 5 = .ok (.ifCond .ne 9, 3) := by decide +kernel
theorem dX8_clearsIfEncoded_8 : decode cX8_clearsIfEncoded 8 = .ok (.aload_n 0, 1) := by decide +kernel
theorem dX8_clearsIfEncoded_9 : decode cX8_clearsIfEncoded 9 = .ok (.iconst 1, 1) := by decide +kernel
theorem dX8_clearsIfEncoded_10 : decode cX8_clearsIfEncoded 10 = .ok (.invokevirtual 59, 3) := by decide +kernel
theorem dX8_clearsIfEncoded_13 : decode cX8_clearsIfEncoded 13 = .ok (.ireturn, 1) := by decide +kernel
theorem dX8_clearsIfEncoded_14 : decode cX8_clearsIfEncoded 14 = .ok (.aload_n 0, 1) := by decide +kernel
theorem dX8_clearsIfEncoded_15 : decode cX8_clearsIfEncoded 15 = .ok (.aload_n 0, 1) := by decide +kernel
theorem dX8_clearsIfEncoded_16 : decode cX8_clearsIfEncoded 16 = .ok (.iload_n 1, 1) := by decide +kernel
theorem dX8_clearsIfEncoded_17 : decode cX8_clearsIfEncoded 17 = .ok (.invokevirtual 335, 3) := by decide +kernel
theorem dX8_clearsIfEncoded_20 : decode cX8_clearsIfEncoded 20 = .ok (.invokevirtual 55, 3) := by decide +kernel
theorem dX8_clearsIfEncoded_23 : decode cX8_clearsIfEncoded 23 = .ok (.ireturn, 1) := by decide +kernel
set_option maxRecDepth 20000 in
theorem ggX8_encodedCount_X8_told : GoodIn wsX8_encodedCount wsX8_told := goodIn_r _ [6, 7, 8, 9, 10, 11, 12, 13, 14, 15, 16, 17, 18, 19, 20, 21, 22, 23, 24, 25, 26, 27, 28, 29, 30, 31, 32, 33, 34] (by decide +kernel) (by decide +kernel)
set_option maxRecDepth 20000 in
theorem gX8_encodedCount_X8_told : GoodIn wsX8_encodedCount (wsV RX8 55 RX8 yX8_told wsX8_told) := goodIn_app (goodIn_of _ (by decide +kernel)) ggX8_encodedCount_X8_told
theorem dX8_encodedCount_0 : decode cX8_encodedCount 0 = .ok (.aload_n 0, 1) := by decide +kernel
theorem dX8_encodedCount_1 : decode cX8_encodedCount 1 = .ok (.aload_n 0, 1) := by decide +kernel
theorem dX8_encodedCount_2 : decode cX8_encodedCount 2 = .ok (.getfield 17, 3) := by decide +kernel
theorem dX8_encodedCount_5 : decode cX8_encodedCount 5 = .ok (.bipush 6, 2) := by decide +kernel
theorem dX8_encodedCount_7 : decode cX8_encodedCount 7 = .ok (.iaload, 1) := by decide +kernel
theorem dX8_encodedCount_8 : decode cX8_encodedCount 8 = .ok (.invokevirtual 55, 3) := by decide +kernel
theorem dX8_encodedCount_11 : decode cX8_encodedCount 11 = .ok (.ireturn, 1) := by decide +kernel
set_option maxRecDepth 20000 in
theorem ggX8_encodedSymbol_X8_in : GoodIn wsX8_encodedSymbol wsX8_in := goodIn_r _ [5] (by decide +kernel) (by decide +kernel)
set_option maxRecDepth 20000 in
theorem gX8_encodedSymbol_X8_in : GoodIn wsX8_encodedSymbol (va_wsS RX8 62 yX8_in wsX8_in) := goodIn_app (goodIn_of _ (by decide +kernel)) ggX8_encodedSymbol_X8_in
set_option maxRecDepth 20000 in
theorem ggX8_encodedSymbol_X8_throwing : GoodIn wsX8_encodedSymbol wsX8_throwing := goodIn_r _ [9, 10, 15, 16, 17, 18, 19, 20, 21, 22, 23, 24, 25, 26, 27, 28, 29, 30, 31, 32, 33, 34, 35, 36, 37, 38, 39, 40, 41] (by decide +kernel) (by decide +kernel)
set_option maxRecDepth 20000 in
theorem gX8_encodedSymbol_X8_throwing : GoodIn wsX8_encodedSymbol (wsV RX8 59 RX8 yX8_throwing wsX8_throwing) := goodIn_app (goodIn_of _ (by decide +kernel)) ggX8_encodedSymbol_X8_throwing
set_option maxRecDepth 20000 in
theorem ggX8_encodedSymbol_X8_told : GoodIn wsX8_encodedSymbol wsX8_told := goodIn_r _ [14, 10, 15, 16, 17, 18, 19, 20, 21, 22, 23, 24, 25, 26, 27, 28, 29, 30, 31, 32, 33, 34, 35, 36, 37, 38, 39, 40, 41] (by decide +kernel) (by decide +kernel)
set_option maxRecDepth 20000 in
theorem gX8_encodedSymbol_X8_told : GoodIn wsX8_encodedSymbol (wsV RX8 55 RX8 yX8_told wsX8_told) := goodIn_app (goodIn_of _ (by decide +kernel)) ggX8_encodedSymbol_X8_told
theorem dX8_encodedSymbol_0 : decode cX8_encodedSymbol 0 = .ok (.iload_n 1, 1) := by decide +kernel
theorem dX8_encodedSymbol_1 : decode cX8_encodedSymbol 1 = .ok (.iconst 0, 1) := by decide +kernel
theorem dX8_encodedSymbol_2 : decode cX8_encodedSymbol 2 = .ok (.aload_n 0, 1) := by decide +kernel
theorem dX8_encodedSymbol_3 : decode cX8_encodedSymbol 3 = .ok (.getfield 17, 3) := by decide +kernel
theorem dX8_encodedSymbol_6 : decode cX8_encodedSymbol 6 = .ok (.bipush 6, 2) := by decide +kernel
theorem dX8_encodedSymbol_8 : decode cX8_encodedSymbol 8 = .ok (.iaload, 1) := by decide +kernel
theorem dX8_encodedSymbol_9 : decode cX8_encodedSymbol 9 = .ok (.iconst 1, 1) := by decide +kernel
theorem dX8_encodedSymbol_10 : decode cX8_encodedSymbol 10 = .ok (.isub, 1) := by decide +kernel
theorem dX8_encodedSymbol_11 : decode cX8_encodedSymbol 11 = .ok (.invokestatic 62, 3) := by decide +kernel
theorem dX8_encodedSymbol_14 : decode cX8_encodedSymbol 14 = .ok (.ifCond .ne 9, 3) := by decide +kernel
theorem dX8_encodedSymbol_17 : decode cX8_encodedSymbol 17 = .ok (.aload_n 0, 1) := by decide +kernel
theorem dX8_encodedSymbol_18 : decode cX8_encodedSymbol 18 = .ok (.iconst 1, 1) := by decide +kernel
theorem dX8_encodedSymbol_19 : decode cX8_encodedSymbol 19 = .ok (.invokevirtual 59, 3) := by decide +kernel
theorem dX8_encodedSymbol_22 : decode cX8_encodedSymbol 22 = .ok (.ireturn, 1) := by decide +kernel
theorem dX8_encodedSymbol_23 : decode cX8_encodedSymbol 23 = .ok (.aload_n 0, 1) := by decide +kernel
theorem dX8_encodedSymbol_24 : decode cX8_encodedSymbol 24 = .ok (.aload_n 0, 1) := by decide +kernel
theorem dX8_encodedSymbol_25 : decode cX8_encodedSymbol 25 = .ok (.getfield 17, 3) := by decide +kernel
theorem dX8_encodedSymbol_28 : decode cX8_encodedSymbol 28 = .ok (.sipush 526, 3) := by decide +kernel
theorem dX8_encodedSymbol_31 : decode cX8_encodedSymbol 31 = .ok (.iload_n 1, 1) := by decide +kernel
theorem dX8_encodedSymbol_32 : decode cX8_encodedSymbol 32 = .ok (.iadd, 1) := by decide +kernel
theorem dX8_encodedSymbol_33 : decode cX8_encodedSymbol 33 = .ok (.iaload, 1) := by decide +kernel
theorem dX8_encodedSymbol_34 : decode cX8_encodedSymbol 34 = .ok (.invokevirtual 55, 3) := by decide +kernel
theorem dX8_encodedSymbol_37 : decode cX8_encodedSymbol 37 = .ok (.ireturn, 1) := by decide +kernel
set_option maxRecDepth 20000 in
theorem ggX8_writtenCount_X8_told : GoodIn wsX8_writtenCount wsX8_told := goodIn_r _ [6, 7, 8, 9, 10, 11, 12, 13, 14, 15, 16, 17, 18, 19, 20, 21, 22, 23, 24, 25, 26, 27, 28, 29, 30, 31, 32, 33, 34] (by decide +kernel) (by decide +kernel)
set_option maxRecDepth 20000 in
theorem gX8_writtenCount_X8_told : GoodIn wsX8_writtenCount (wsV RX8 55 RX8 yX8_told wsX8_told) := goodIn_app (goodIn_of _ (by decide +kernel)) ggX8_writtenCount_X8_told
theorem dX8_writtenCount_0 : decode cX8_writtenCount 0 = .ok (.aload_n 0, 1) := by decide +kernel
theorem dX8_writtenCount_1 : decode cX8_writtenCount 1 = .ok (.aload_n 0, 1) := by decide +kernel
theorem dX8_writtenCount_2 : decode cX8_writtenCount 2 = .ok (.getfield 17, 3) := by decide +kernel
theorem dX8_writtenCount_5 : decode cX8_writtenCount 5 = .ok (.bipush 7, 2) := by decide +kernel
theorem dX8_writtenCount_7 : decode cX8_writtenCount 7 = .ok (.iaload, 1) := by decide +kernel
theorem dX8_writtenCount_8 : decode cX8_writtenCount 8 = .ok (.invokevirtual 55, 3) := by decide +kernel
theorem dX8_writtenCount_11 : decode cX8_writtenCount 11 = .ok (.ireturn, 1) := by decide +kernel
set_option maxRecDepth 20000 in
theorem ggX8_isWritten_X8_in : GoodIn wsX8_isWritten wsX8_in := goodIn_r _ [5] (by decide +kernel) (by decide +kernel)
set_option maxRecDepth 20000 in
theorem gX8_isWritten_X8_in : GoodIn wsX8_isWritten (va_wsS RX8 62 yX8_in wsX8_in) := goodIn_app (goodIn_of _ (by decide +kernel)) ggX8_isWritten_X8_in
theorem dX8_isWritten_0 : decode cX8_isWritten 0 = .ok (.iload_n 1, 1) := by decide +kernel
theorem dX8_isWritten_1 : decode cX8_isWritten 1 = .ok (.iconst 0, 1) := by decide +kernel
theorem dX8_isWritten_2 : decode cX8_isWritten 2 = .ok (.aload_n 0, 1) := by decide +kernel
theorem dX8_isWritten_3 : decode cX8_isWritten 3 = .ok (.getfield 17, 3) := by decide +kernel
theorem dX8_isWritten_6 : decode cX8_isWritten 6 = .ok (.bipush 7, 2) := by decide +kernel
theorem dX8_isWritten_8 : decode cX8_isWritten 8 = .ok (.iaload, 1) := by decide +kernel
theorem dX8_isWritten_9 : decode cX8_isWritten 9 = .ok (.iconst 1, 1) := by decide +kernel
theorem dX8_isWritten_10 : decode cX8_isWritten 10 = .ok (.isub, 1) := by decide +kernel
theorem dX8_isWritten_11 : decode cX8_isWritten 11 = .ok (.invokestatic 62, 3) := by decide +kernel
theorem dX8_isWritten_14 : decode cX8_isWritten 14 = .ok (.ireturn, 1) := by decide +kernel
set_option maxRecDepth 20000 in
theorem ggX8_writtenCode_X8_isWritten : GoodIn wsX8_writtenCode wsX8_isWritten := goodIn_r _ [5, 6, 7, 8, 4, 9, 23, 24, 25, 26, 27, 28, 29, 30, 31, 32, 33, 34, 35, 36, 37, 38, 39, 40, 41, 42, 43, 44, 45, 46, 47, 48, 49] (by decide +kernel) (by decide +kernel)
set_option maxRecDepth 20000 in
theorem gX8_writtenCode_X8_isWritten : GoodIn wsX8_writtenCode (wsV RX8 341 RX8 yX8_isWritten wsX8_isWritten) := goodIn_app (goodIn_of _ (by decide +kernel)) ggX8_writtenCode_X8_isWritten
set_option maxRecDepth 20000 in
theorem ggX8_writtenCode_X8_throwing : GoodIn wsX8_writtenCode wsX8_throwing := goodIn_r _ [13, 14, 23, 24, 25, 26, 27, 28, 29, 30, 31, 32, 33, 34, 35, 36, 37, 38, 39, 40, 41, 42, 43, 44, 45, 46, 47, 48, 49] (by decide +kernel) (by decide +kernel)
set_option maxRecDepth 20000 in
theorem gX8_writtenCode_X8_throwing : GoodIn wsX8_writtenCode (wsV RX8 59 RX8 yX8_throwing wsX8_throwing) := goodIn_app (goodIn_of _ (by decide +kernel)) ggX8_writtenCode_X8_throwing
set_option maxRecDepth 20000 in
theorem ggX8_writtenCode_X8_codeAt : GoodIn wsX8_writtenCode wsX8_codeAt := goodIn_r _ [18, 6, 23, 24, 25, 26, 27, 28, 29, 30, 31, 32, 33, 34, 35, 36, 37, 38, 39, 40, 41, 42, 43, 44, 45, 46, 47, 48, 49] (by decide +kernel) (by decide +kernel)
set_option maxRecDepth 20000 in
theorem gX8_writtenCode_X8_codeAt : GoodIn wsX8_writtenCode (wsV RX8 99 RX8 yX8_codeAt wsX8_codeAt) := goodIn_app (goodIn_of _ (by decide +kernel)) ggX8_writtenCode_X8_codeAt
set_option maxRecDepth 20000 in
theorem ggX8_writtenCode_X8_told : GoodIn wsX8_writtenCode wsX8_told := goodIn_r _ [22, 14, 23, 24, 25, 26, 27, 28, 29, 30, 31, 32, 33, 34, 35, 36, 37, 38, 39, 40, 41, 42, 43, 44, 45, 46, 47, 48, 49] (by decide +kernel) (by decide +kernel)
set_option maxRecDepth 20000 in
theorem gX8_writtenCode_X8_told : GoodIn wsX8_writtenCode (wsV RX8 55 RX8 yX8_told wsX8_told) := goodIn_app (goodIn_of _ (by decide +kernel)) ggX8_writtenCode_X8_told
theorem dX8_writtenCode_0 : decode cX8_writtenCode 0 = .ok (.aload_n 0, 1) := by decide +kernel
theorem dX8_writtenCode_1 : decode cX8_writtenCode 1 = .ok (.iload_n 1, 1) := by decide +kernel
theorem dX8_writtenCode_2 : decode cX8_writtenCode 2 = .ok (.invokevirtual 341, 3) := by decide +kernel
theorem dX8_writtenCode_5 : decode cX8_writtenCode 5 = .ok (.ifCond .ne 9, 3) := by decide +kernel
theorem dX8_writtenCode_8 : decode cX8_writtenCode 8 = .ok (.aload_n 0, 1) := by decide +kernel
theorem dX8_writtenCode_9 : decode cX8_writtenCode 9 = .ok (.iconst 1, 1) := by decide +kernel
theorem dX8_writtenCode_10 : decode cX8_writtenCode 10 = .ok (.invokevirtual 59, 3) := by decide +kernel
theorem dX8_writtenCode_13 : decode cX8_writtenCode 13 = .ok (.ireturn, 1) := by decide +kernel
theorem dX8_writtenCode_14 : decode cX8_writtenCode 14 = .ok (.aload_n 0, 1) := by decide +kernel
theorem dX8_writtenCode_15 : decode cX8_writtenCode 15 = .ok (.aload_n 0, 1) := by decide +kernel
theorem dX8_writtenCode_16 : decode cX8_writtenCode 16 = .ok (.iload_n 1, 1) := by decide +kernel
theorem dX8_writtenCode_17 : decode cX8_writtenCode 17 = .ok (.invokevirtual 99, 3) := by decide +kernel
theorem dX8_writtenCode_20 : decode cX8_writtenCode 20 = .ok (.invokevirtual 55, 3) := by decide +kernel
theorem dX8_writtenCode_23 : decode cX8_writtenCode 23 = .ok (.ireturn, 1) := by decide +kernel
set_option maxRecDepth 20000 in
theorem ggX8_writtenWidth_X8_isWritten : GoodIn wsX8_writtenWidth wsX8_isWritten := goodIn_r _ [5, 6, 7, 8, 4, 9, 23, 24, 25, 26, 27, 28, 29, 30, 31, 32, 33, 34, 35, 36, 37, 38, 39, 40, 41, 42, 43, 44, 45, 46, 47, 48, 49] (by decide +kernel) (by decide +kernel)
set_option maxRecDepth 20000 in
theorem gX8_writtenWidth_X8_isWritten : GoodIn wsX8_writtenWidth (wsV RX8 341 RX8 yX8_isWritten wsX8_isWritten) := goodIn_app (goodIn_of _ (by decide +kernel)) ggX8_writtenWidth_X8_isWritten
set_option maxRecDepth 20000 in
theorem ggX8_writtenWidth_X8_throwing : GoodIn wsX8_writtenWidth wsX8_throwing := goodIn_r _ [13, 14, 23, 24, 25, 26, 27, 28, 29, 30, 31, 32, 33, 34, 35, 36, 37, 38, 39, 40, 41, 42, 43, 44, 45, 46, 47, 48, 49] (by decide +kernel) (by decide +kernel)
set_option maxRecDepth 20000 in
theorem gX8_writtenWidth_X8_throwing : GoodIn wsX8_writtenWidth (wsV RX8 59 RX8 yX8_throwing wsX8_throwing) := goodIn_app (goodIn_of _ (by decide +kernel)) ggX8_writtenWidth_X8_throwing
set_option maxRecDepth 20000 in
theorem ggX8_writtenWidth_X8_widthAt : GoodIn wsX8_writtenWidth wsX8_widthAt := goodIn_r _ [18, 6, 23, 24, 25, 26, 27, 28, 29, 30, 31, 32, 33, 34, 35, 36, 37, 38, 39, 40, 41, 42, 43, 44, 45, 46, 47, 48, 49] (by decide +kernel) (by decide +kernel)
set_option maxRecDepth 20000 in
theorem gX8_writtenWidth_X8_widthAt : GoodIn wsX8_writtenWidth (wsV RX8 102 RX8 yX8_widthAt wsX8_widthAt) := goodIn_app (goodIn_of _ (by decide +kernel)) ggX8_writtenWidth_X8_widthAt
set_option maxRecDepth 20000 in
theorem ggX8_writtenWidth_X8_told : GoodIn wsX8_writtenWidth wsX8_told := goodIn_r _ [22, 14, 23, 24, 25, 26, 27, 28, 29, 30, 31, 32, 33, 34, 35, 36, 37, 38, 39, 40, 41, 42, 43, 44, 45, 46, 47, 48, 49] (by decide +kernel) (by decide +kernel)
set_option maxRecDepth 20000 in
theorem gX8_writtenWidth_X8_told : GoodIn wsX8_writtenWidth (wsV RX8 55 RX8 yX8_told wsX8_told) := goodIn_app (goodIn_of _ (by decide +kernel)) ggX8_writtenWidth_X8_told
theorem dX8_writtenWidth_0 : decode cX8_writtenWidth 0 = .ok (.aload_n 0, 1) := by decide +kernel
theorem dX8_writtenWidth_1 : decode cX8_writtenWidth 1 = .ok (.iload_n 1, 1) := by decide +kernel
theorem dX8_writtenWidth_2 : decode cX8_writtenWidth 2 = .ok (.invokevirtual 341, 3) := by decide +kernel
theorem dX8_writtenWidth_5 : decode cX8_writtenWidth 5 = .ok (.ifCond .ne 9, 3) := by decide +kernel
theorem dX8_writtenWidth_8 : decode cX8_writtenWidth 8 = .ok (.aload_n 0, 1) := by decide +kernel
theorem dX8_writtenWidth_9 : decode cX8_writtenWidth 9 = .ok (.iconst 1, 1) := by decide +kernel
theorem dX8_writtenWidth_10 : decode cX8_writtenWidth 10 = .ok (.invokevirtual 59, 3) := by decide +kernel
theorem dX8_writtenWidth_13 : decode cX8_writtenWidth 13 = .ok (.ireturn, 1) := by decide +kernel
theorem dX8_writtenWidth_14 : decode cX8_writtenWidth 14 = .ok (.aload_n 0, 1) := by decide +kernel
theorem dX8_writtenWidth_15 : decode cX8_writtenWidth 15 = .ok (.aload_n 0, 1) := by decide +kernel
theorem dX8_writtenWidth_16 : decode cX8_writtenWidth 16 = .ok (.iload_n 1, 1) := by decide +kernel
theorem dX8_writtenWidth_17 : decode cX8_writtenWidth 17 = .ok (.invokevirtual 102, 3) := by decide +kernel
theorem dX8_writtenWidth_20 : decode cX8_writtenWidth 20 = .ok (.invokevirtual 55, 3) := by decide +kernel
theorem dX8_writtenWidth_23 : decode cX8_writtenWidth 23 = .ok (.ireturn, 1) := by decide +kernel
set_option maxRecDepth 20000 in
theorem ggX8_bitCount_X8_allBits : GoodIn wsX8_bitCount wsX8_allBits := goodIn_r _ [5, 6, 7, 8, 4, 9, 10, 11, 12, 13, 14, 20, 21, 22, 23, 24, 25, 26, 27, 28, 29, 30, 31, 32, 33, 34, 35, 36, 37, 38, 39, 40, 41, 42, 43, 44, 45, 46] (by decide +kernel) (by decide +kernel)
set_option maxRecDepth 20000 in
theorem gX8_bitCount_X8_allBits : GoodIn wsX8_bitCount (wsV RX8 344 RX8 yX8_allBits wsX8_allBits) := goodIn_app (goodIn_of _ (by decide +kernel)) ggX8_bitCount_X8_allBits
set_option maxRecDepth 20000 in
theorem ggX8_bitCount_X8_told : GoodIn wsX8_bitCount wsX8_told := goodIn_r _ [18, 19, 20, 21, 22, 23, 24, 25, 26, 27, 28, 29, 30, 31, 32, 33, 34, 35, 36, 37, 38, 39, 40, 41, 42, 43, 44, 45, 46] (by decide +kernel) (by decide +kernel)
set_option maxRecDepth 20000 in
theorem gX8_bitCount_X8_told : GoodIn wsX8_bitCount (wsV RX8 55 RX8 yX8_told wsX8_told) := goodIn_app (goodIn_of _ (by decide +kernel)) ggX8_bitCount_X8_told
theorem dX8_bitCount_0 : decode cX8_bitCount 0 = .ok (.aload_n 0, 1) := by decide +kernel
theorem dX8_bitCount_1 : decode cX8_bitCount 1 = .ok (.aload_n 0, 1) := by decide +kernel
theorem dX8_bitCount_2 : decode cX8_bitCount 2 = .ok (.invokevirtual 344, 3) := by decide +kernel
theorem dX8_bitCount_5 : decode cX8_bitCount 5 = .ok (.invokevirtual 55, 3) := by decide +kernel
theorem dX8_bitCount_8 : decode cX8_bitCount 8 = .ok (.ireturn, 1) := by decide +kernel
set_option maxRecDepth 20000 in
theorem ggX8_bit_X8_widthAt : GoodIn wsX8_bit wsX8_widthAt := goodIn_r _ [5, 6, 11, 12, 13, 14, 15, 16, 17, 18, 19, 20, 21, 22, 23, 24, 25, 26, 27, 28, 29, 30, 31, 32, 33, 34, 35, 36, 37] (by decide +kernel) (by decide +kernel)
set_option maxRecDepth 20000 in
theorem gX8_bit_X8_widthAt : GoodIn wsX8_bit (wsV RX8 102 RX8 yX8_widthAt wsX8_widthAt) := goodIn_app (goodIn_of _ (by decide +kernel)) ggX8_bit_X8_widthAt
set_option maxRecDepth 20000 in
theorem ggX8_bit_X8_codeAt : GoodIn wsX8_bit wsX8_codeAt := goodIn_r _ [10, 6, 11, 12, 13, 14, 15, 16, 17, 18, 19, 20, 21, 22, 23, 24, 25, 26, 27, 28, 29, 30, 31, 32, 33, 34, 35, 36, 37] (by decide +kernel) (by decide +kernel)
set_option maxRecDepth 20000 in
theorem gX8_bit_X8_codeAt : GoodIn wsX8_bit (wsV RX8 99 RX8 yX8_codeAt wsX8_codeAt) := goodIn_app (goodIn_of _ (by decide +kernel)) ggX8_bit_X8_codeAt
theorem dX8_bit_0 : decode cX8_bit 0 = .ok (.iload_n 1, 1) := by decide +kernel
theorem dX8_bit_1 : decode cX8_bit 1 = .ok (.istore_n 2, 1) := by decide +kernel
theorem dX8_bit_2 : decode cX8_bit 2 = .ok (.iconst 0, 1) := by decide +kernel
theorem dX8_bit_3 : decode cX8_bit 3 = .ok (.istore_n 3, 1) := by decide +kernel
theorem dX8_bit_4 : decode cX8_bit 4 = .ok (.iload_n 2, 1) := by decide +kernel
theorem dX8_bit_5 : decode cX8_bit 5 = .ok (.aload_n 0, 1) := by decide +kernel
theorem dX8_bit_6 : decode cX8_bit 6 = .ok (.iload_n 3, 1) := by decide +kernel
theorem dX8_bit_7 : decode cX8_bit 7 = .ok (.invokevirtual 102, 3) := by decide +kernel
theorem dX8_bit_10 : decode cX8_bit 10 = .ok (.if_icmp .lt 17, 3) := by decide +kernel
theorem dX8_bit_13 : decode cX8_bit 13 = .ok (.iload_n 2, 1) := by decide +kernel
theorem dX8_bit_14 : decode cX8_bit 14 = .ok (.aload_n 0, 1) := by decide +kernel
theorem dX8_bit_15 : decode cX8_bit 15 = .ok (.iload_n 3, 1) := by decide +kernel
theorem dX8_bit_16 : decode cX8_bit 16 = .ok (.invokevirtual 102, 3) := by decide +kernel
theorem dX8_bit_19 : decode cX8_bit 19 = .ok (.isub, 1) := by decide +kernel
theorem dX8_bit_20 : decode cX8_bit 20 = .ok (.istore_n 2, 1) := by decide +kernel
theorem dX8_bit_21 : decode cX8_bit 21 = .ok (.iinc 3 1, 3) := by decide +kernel
theorem dX8_bit_24 : decode cX8_bit 24 = .ok (.goto (-20), 3) := by decide +kernel
theorem dX8_bit_27 : decode cX8_bit 27 = .ok (.aload_n 0, 1) := by decide +kernel
theorem dX8_bit_28 : decode cX8_bit 28 = .ok (.iload_n 3, 1) := by decide +kernel
theorem dX8_bit_29 : decode cX8_bit 29 = .ok (.invokevirtual 102, 3) := by decide +kernel
theorem dX8_bit_32 : decode cX8_bit 32 = .ok (.iconst 1, 1) := by decide +kernel
theorem dX8_bit_33 : decode cX8_bit 33 = .ok (.isub, 1) := by decide +kernel
theorem dX8_bit_34 : decode cX8_bit 34 = .ok (.iload_n 2, 1) := by decide +kernel
theorem dX8_bit_35 : decode cX8_bit 35 = .ok (.isub, 1) := by decide +kernel
theorem dX8_bit_36 : decode cX8_bit 36 = .ok (.istore 4, 2) := by decide +kernel
theorem dX8_bit_38 : decode cX8_bit 38 = .ok (.aload_n 0, 1) := by decide +kernel
theorem dX8_bit_39 : decode cX8_bit 39 = .ok (.iload_n 3, 1) := by decide +kernel
theorem dX8_bit_40 : decode cX8_bit 40 = .ok (.invokevirtual 99, 3) := by decide +kernel
theorem dX8_bit_43 : decode cX8_bit 43 = .ok (.iload 4, 2) := by decide +kernel
theorem dX8_bit_45 : decode cX8_bit 45 = .ok (.ishr, 1) := by decide +kernel
theorem dX8_bit_46 : decode cX8_bit 46 = .ok (.iconst 1, 1) := by decide +kernel
theorem dX8_bit_47 : decode cX8_bit 47 = .ok (.iand, 1) := by decide +kernel
theorem dX8_bit_48 : decode cX8_bit 48 = .ok (.ireturn, 1) := by decide +kernel
set_option maxRecDepth 20000 in
theorem ggX8_bitAt_X8_allBits : GoodIn wsX8_bitAt wsX8_allBits := goodIn_r _ [5, 6, 7, 8, 4, 9, 10, 11, 12, 13, 14, 35, 36, 37, 38, 39, 40, 41, 42, 43, 44, 45, 46, 47, 48, 49, 50, 51, 52, 53, 54, 55, 56, 57, 58, 59, 60, 61] (by decide +kernel) (by decide +kernel)
set_option maxRecDepth 20000 in
theorem gX8_bitAt_X8_allBits : GoodIn wsX8_bitAt (wsV RX8 344 RX8 yX8_allBits wsX8_allBits) := goodIn_app (goodIn_of _ (by decide +kernel)) ggX8_bitAt_X8_allBits
set_option maxRecDepth 20000 in
theorem ggX8_bitAt_X8_in : GoodIn wsX8_bitAt wsX8_in := goodIn_r _ [17] (by decide +kernel) (by decide +kernel)
set_option maxRecDepth 20000 in
theorem gX8_bitAt_X8_in : GoodIn wsX8_bitAt (va_wsS RX8 62 yX8_in wsX8_in) := goodIn_app (goodIn_of _ (by decide +kernel)) ggX8_bitAt_X8_in
set_option maxRecDepth 20000 in
theorem ggX8_bitAt_X8_throwing : GoodIn wsX8_bitAt wsX8_throwing := goodIn_r _ [21, 22, 35, 36, 37, 38, 39, 40, 41, 42, 43, 44, 45, 46, 47, 48, 49, 50, 51, 52, 53, 54, 55, 56, 57, 58, 59, 60, 61] (by decide +kernel) (by decide +kernel)
set_option maxRecDepth 20000 in
theorem gX8_bitAt_X8_throwing : GoodIn wsX8_bitAt (wsV RX8 59 RX8 yX8_throwing wsX8_throwing) := goodIn_app (goodIn_of _ (by decide +kernel)) ggX8_bitAt_X8_throwing
set_option maxRecDepth 20000 in
theorem ggX8_bitAt_X8_bit : GoodIn wsX8_bitAt wsX8_bit := goodIn_r _ [26, 11, 12, 13, 4, 14, 10, 27, 28, 29, 30, 35, 36, 37, 38, 39, 40, 41, 42, 43, 44, 45, 46, 47, 48, 49, 50, 51, 52, 53, 54, 55, 56, 57, 58, 59, 60, 61] (by decide +kernel) (by decide +kernel)
set_option maxRecDepth 20000 in
theorem gX8_bitAt_X8_bit : GoodIn wsX8_bitAt (wsV RX8 347 RX8 yX8_bit wsX8_bit) := goodIn_app (goodIn_of _ (by decide +kernel)) ggX8_bitAt_X8_bit
set_option maxRecDepth 20000 in
theorem ggX8_bitAt_X8_told : GoodIn wsX8_bitAt wsX8_told := goodIn_r _ [34, 22, 35, 36, 37, 38, 39, 40, 41, 42, 43, 44, 45, 46, 47, 48, 49, 50, 51, 52, 53, 54, 55, 56, 57, 58, 59, 60, 61] (by decide +kernel) (by decide +kernel)
set_option maxRecDepth 20000 in
theorem gX8_bitAt_X8_told : GoodIn wsX8_bitAt (wsV RX8 55 RX8 yX8_told wsX8_told) := goodIn_app (goodIn_of _ (by decide +kernel)) ggX8_bitAt_X8_told
theorem dX8_bitAt_0 : decode cX8_bitAt 0 = .ok (.iload_n 1, 1) := by decide +kernel
theorem dX8_bitAt_1 : decode cX8_bitAt 1 = .ok (.iconst 0, 1) := by decide +kernel
theorem dX8_bitAt_2 : decode cX8_bitAt 2 = .ok (.aload_n 0, 1) := by decide +kernel
theorem dX8_bitAt_3 : decode cX8_bitAt 3 = .ok (.invokevirtual 344, 3) := by decide +kernel
theorem dX8_bitAt_6 : decode cX8_bitAt 6 = .ok (.iconst 1, 1) := by decide +kernel
theorem dX8_bitAt_7 : decode cX8_bitAt 7 = .ok (.isub, 1) := by decide +kernel
theorem dX8_bitAt_8 : decode cX8_bitAt 8 = .ok (.invokestatic 62, 3) := by decide +kernel
theorem dX8_bitAt_11 : decode cX8_bitAt 11 = .ok (.ifCond .ne 9, 3) := by decide +kernel
theorem dX8_bitAt_14 : decode cX8_bitAt 14 = .ok (.aload_n 0, 1) := by decide +kernel
theorem dX8_bitAt_15 : decode cX8_bitAt 15 = .ok (.iconst 1, 1) := by decide +kernel
theorem dX8_bitAt_16 : decode cX8_bitAt 16 = .ok (.invokevirtual 59, 3) := by decide +kernel
theorem dX8_bitAt_19 : decode cX8_bitAt 19 = .ok (.ireturn, 1) := by decide +kernel
theorem dX8_bitAt_20 : decode cX8_bitAt 20 = .ok (.aload_n 0, 1) := by decide +kernel
theorem dX8_bitAt_21 : decode cX8_bitAt 21 = .ok (.aload_n 0, 1) := by decide +kernel
theorem dX8_bitAt_22 : decode cX8_bitAt 22 = .ok (.iload_n 1, 1) := by decide +kernel
theorem dX8_bitAt_23 : decode cX8_bitAt 23 = .ok (.invokevirtual 347, 3) := by decide +kernel
theorem dX8_bitAt_26 : decode cX8_bitAt 26 = .ok (.invokevirtual 55, 3) := by decide +kernel
theorem dX8_bitAt_29 : decode cX8_bitAt 29 = .ok (.ireturn, 1) := by decide +kernel
set_option maxRecDepth 20000 in
theorem ggX8_bytes_X8_allBits : GoodIn wsX8_bytes wsX8_allBits := goodIn_r _ [5, 6, 7, 8, 4, 9, 10, 11, 12, 13, 14, 15, 16, 17, 18, 19, 20, 21, 22, 23, 24, 25, 26, 27, 28, 29, 30, 31, 32, 33, 34, 35, 36, 37, 38, 39, 40, 41] (by decide +kernel) (by decide +kernel)
set_option maxRecDepth 20000 in
theorem gX8_bytes_X8_allBits : GoodIn wsX8_bytes (wsV RX8 344 RX8 yX8_allBits wsX8_allBits) := goodIn_app (goodIn_of _ (by decide +kernel)) ggX8_bytes_X8_allBits
theorem dX8_bytes_0 : decode cX8_bytes 0 = .ok (.aload_n 0, 1) := by decide +kernel
theorem dX8_bytes_1 : decode cX8_bytes 1 = .ok (.invokevirtual 344, 3) := by decide +kernel
theorem dX8_bytes_4 : decode cX8_bytes 4 = .ok (.bipush 7, 2) := by decide +kernel
theorem dX8_bytes_6 : decode cX8_bytes 6 = .ok (.iadd, 1) := by decide +kernel
theorem dX8_bytes_7 : decode cX8_bytes 7 = .ok (.bipush 8, 2) := by decide +kernel
theorem dX8_bytes_9 : decode cX8_bytes 9 = .ok (.idiv, 1) := by decide +kernel
theorem dX8_bytes_10 : decode cX8_bytes 10 = .ok (.ireturn, 1) := by decide +kernel
set_option maxRecDepth 20000 in
theorem ggX8_byteCount_X8_bytes : GoodIn wsX8_byteCount wsX8_bytes := goodIn_r _ [5, 6, 7, 8, 4, 9, 10, 11, 12, 13, 14, 15, 16, 17, 18, 24, 25, 26, 27, 28, 29, 30, 31, 32, 33, 34, 35, 36, 37, 38, 39, 40, 41, 42, 43, 44, 45, 46, 47, 48, 49, 50] (by decide +kernel) (by decide +kernel)
set_option maxRecDepth 20000 in
theorem gX8_byteCount_X8_bytes : GoodIn wsX8_byteCount (wsV RX8 350 RX8 yX8_bytes wsX8_bytes) := goodIn_app (goodIn_of _ (by decide +kernel)) ggX8_byteCount_X8_bytes
set_option maxRecDepth 20000 in
theorem ggX8_byteCount_X8_told : GoodIn wsX8_byteCount wsX8_told := goodIn_r _ [22, 23, 24, 25, 26, 27, 28, 29, 30, 31, 32, 33, 34, 35, 36, 37, 38, 39, 40, 41, 42, 43, 44, 45, 46, 47, 48, 49, 50] (by decide +kernel) (by decide +kernel)
set_option maxRecDepth 20000 in
theorem gX8_byteCount_X8_told : GoodIn wsX8_byteCount (wsV RX8 55 RX8 yX8_told wsX8_told) := goodIn_app (goodIn_of _ (by decide +kernel)) ggX8_byteCount_X8_told
theorem dX8_byteCount_0 : decode cX8_byteCount 0 = .ok (.aload_n 0, 1) := by decide +kernel
theorem dX8_byteCount_1 : decode cX8_byteCount 1 = .ok (.aload_n 0, 1) := by decide +kernel
theorem dX8_byteCount_2 : decode cX8_byteCount 2 = .ok (.invokevirtual 350, 3) := by decide +kernel
theorem dX8_byteCount_5 : decode cX8_byteCount 5 = .ok (.invokevirtual 55, 3) := by decide +kernel
theorem dX8_byteCount_8 : decode cX8_byteCount 8 = .ok (.ireturn, 1) := by decide +kernel
set_option maxRecDepth 20000 in
theorem ggX8_byteAt_X8_bytes : GoodIn wsX8_byteAt wsX8_bytes := goodIn_r _ [5, 6, 7, 8, 4, 9, 10, 11, 12, 13, 14, 15, 16, 17, 18, 39, 40, 41, 42, 43, 44, 45, 46, 47, 48, 49, 50, 51, 52, 53, 54, 55, 56, 57, 58, 59, 60, 61, 62, 63, 64, 65] (by decide +kernel) (by decide +kernel)
set_option maxRecDepth 20000 in
theorem gX8_byteAt_X8_bytes : GoodIn wsX8_byteAt (wsV RX8 350 RX8 yX8_bytes wsX8_bytes) := goodIn_app (goodIn_of _ (by decide +kernel)) ggX8_byteAt_X8_bytes
set_option maxRecDepth 20000 in
theorem ggX8_byteAt_X8_in : GoodIn wsX8_byteAt wsX8_in := goodIn_r _ [21] (by decide +kernel) (by decide +kernel)
set_option maxRecDepth 20000 in
theorem gX8_byteAt_X8_in : GoodIn wsX8_byteAt (va_wsS RX8 62 yX8_in wsX8_in) := goodIn_app (goodIn_of _ (by decide +kernel)) ggX8_byteAt_X8_in
set_option maxRecDepth 20000 in
theorem ggX8_byteAt_X8_throwing : GoodIn wsX8_byteAt wsX8_throwing := goodIn_r _ [25, 26, 39, 40, 41, 42, 43, 44, 45, 46, 47, 48, 49, 50, 51, 52, 53, 54, 55, 56, 57, 58, 59, 60, 61, 62, 63, 64, 65] (by decide +kernel) (by decide +kernel)
set_option maxRecDepth 20000 in
theorem gX8_byteAt_X8_throwing : GoodIn wsX8_byteAt (wsV RX8 59 RX8 yX8_throwing wsX8_throwing) := goodIn_app (goodIn_of _ (by decide +kernel)) ggX8_byteAt_X8_throwing
set_option maxRecDepth 20000 in
theorem ggX8_byteAt_X8_allBits : GoodIn wsX8_byteAt wsX8_allBits := goodIn_r _ [9, 10, 11, 12, 4, 13, 14, 15, 16, 17, 18, 39, 40, 41, 42, 43, 44, 45, 46, 47, 48, 49, 50, 51, 52, 53, 54, 55, 56, 57, 58, 59, 60, 61, 62, 63, 64, 65] (by decide +kernel) (by decide +kernel)
set_option maxRecDepth 20000 in
theorem gX8_byteAt_X8_allBits : GoodIn wsX8_byteAt (wsV RX8 344 RX8 yX8_allBits wsX8_allBits) := goodIn_app (goodIn_of _ (by decide +kernel)) ggX8_byteAt_X8_allBits
set_option maxRecDepth 20000 in
theorem ggX8_byteAt_X8_bit : GoodIn wsX8_byteAt wsX8_bit := goodIn_r _ [30, 15, 16, 17, 4, 18, 14, 31, 32, 33, 34, 39, 40, 41, 42, 43, 44, 45, 46, 47, 48, 49, 50, 51, 52, 53, 54, 55, 56, 57, 58, 59, 60, 61, 62, 63, 64, 65] (by decide +kernel) (by decide +kernel)
set_option maxRecDepth 20000 in
theorem gX8_byteAt_X8_bit : GoodIn wsX8_byteAt (wsV RX8 347 RX8 yX8_bit wsX8_bit) := goodIn_app (goodIn_of _ (by decide +kernel)) ggX8_byteAt_X8_bit
set_option maxRecDepth 20000 in
theorem ggX8_byteAt_X8_told : GoodIn wsX8_byteAt wsX8_told := goodIn_r _ [38, 26, 39, 40, 41, 42, 43, 44, 45, 46, 47, 48, 49, 50, 51, 52, 53, 54, 55, 56, 57, 58, 59, 60, 61, 62, 63, 64, 65] (by decide +kernel) (by decide +kernel)
set_option maxRecDepth 20000 in
theorem gX8_byteAt_X8_told : GoodIn wsX8_byteAt (wsV RX8 55 RX8 yX8_told wsX8_told) := goodIn_app (goodIn_of _ (by decide +kernel)) ggX8_byteAt_X8_told
theorem dX8_byteAt_0 : decode cX8_byteAt 0 = .ok (.iload_n 1, 1) := by decide +kernel
theorem dX8_byteAt_1 : decode cX8_byteAt 1 = .ok (.iconst 0, 1) := by decide +kernel
theorem dX8_byteAt_2 : decode cX8_byteAt 2 = .ok (.aload_n 0, 1) := by decide +kernel
theorem dX8_byteAt_3 : decode cX8_byteAt 3 = .ok (.invokevirtual 350, 3) := by decide +kernel
theorem dX8_byteAt_6 : decode cX8_byteAt 6 = .ok (.iconst 1, 1) := by decide +kernel
theorem dX8_byteAt_7 : decode cX8_byteAt 7 = .ok (.isub, 1) := by decide +kernel
theorem dX8_byteAt_8 : decode cX8_byteAt 8 = .ok (.invokestatic 62, 3) := by decide +kernel
theorem dX8_byteAt_11 : decode cX8_byteAt 11 = .ok (.ifCond .ne 9, 3) := by decide +kernel
theorem dX8_byteAt_14 : decode cX8_byteAt 14 = .ok (.aload_n 0, 1) := by decide +kernel
theorem dX8_byteAt_15 : decode cX8_byteAt 15 = .ok (.iconst 1, 1) := by decide +kernel
theorem dX8_byteAt_16 : decode cX8_byteAt 16 = .ok (.invokevirtual 59, 3) := by decide +kernel
theorem dX8_byteAt_19 : decode cX8_byteAt 19 = .ok (.ireturn, 1) := by decide +kernel
theorem dX8_byteAt_20 : decode cX8_byteAt 20 = .ok (.aload_n 0, 1) := by decide +kernel
theorem dX8_byteAt_21 : decode cX8_byteAt 21 = .ok (.invokevirtual 344, 3) := by decide +kernel
theorem dX8_byteAt_24 : decode cX8_byteAt 24 = .ok (.istore_n 2, 1) := by decide +kernel
theorem dX8_byteAt_25 : decode cX8_byteAt 25 = .ok (.iconst 0, 1) := by decide +kernel
theorem dX8_byteAt_26 : decode cX8_byteAt 26 = .ok (.istore_n 3, 1) := by decide +kernel
theorem dX8_byteAt_27 : decode cX8_byteAt 27 = .ok (.bipush 8, 2) := by decide +kernel
theorem dX8_byteAt_29 : decode cX8_byteAt 29 = .ok (.iload_n 1, 1) := by decide +kernel
theorem dX8_byteAt_30 : decode cX8_byteAt 30 = .ok (.imul, 1) := by decide +kernel
theorem dX8_byteAt_31 : decode cX8_byteAt 31 = .ok (.istore 4, 2) := by decide +kernel
theorem dX8_byteAt_33 : decode cX8_byteAt 33 = .ok (.iload 4, 2) := by decide +kernel
theorem dX8_byteAt_35 : decode cX8_byteAt 35 = .ok (.bipush 8, 2) := by decide +kernel
theorem dX8_byteAt_37 : decode cX8_byteAt 37 = .ok (.iload_n 1, 1) := by decide +kernel
theorem dX8_byteAt_38 : decode cX8_byteAt 38 = .ok (.imul, 1) := by decide +kernel
theorem dX8_byteAt_39 : decode cX8_byteAt 39 = .ok (.bipush 8, 2) := by decide +kernel
theorem dX8_byteAt_41 : decode cX8_byteAt 41 = .ok (.iadd, 1) := by decide +kernel
theorem dX8_byteAt_42 : decode cX8_byteAt 42 = .ok (.if_icmp .ge 34, 3) := by decide +kernel
theorem dX8_byteAt_45 : decode cX8_byteAt 45 = .ok (.iload 4, 2) := by decide +kernel
theorem dX8_byteAt_47 : decode cX8_byteAt 47 = .ok (.iload_n 2, 1) := by decide +kernel
theorem dX8_byteAt_48 : decode cX8_byteAt 48 = .ok (.if_icmp .ge 12, 3) := by decide +kernel
theorem dX8_byteAt_51 : decode cX8_byteAt 51 = .ok (.aload_n 0, 1) := by decide +kernel
theorem dX8_byteAt_52 : decode cX8_byteAt 52 = .ok (.iload 4, 2) := by decide +kernel
theorem dX8_byteAt_54 : decode cX8_byteAt 54 = .ok (.invokevirtual 347, 3) := by decide +kernel
theorem dX8_byteAt_57 : decode cX8_byteAt 57 = .ok (.goto 4, 3) := by decide +kernel
theorem dX8_byteAt_60 : decode cX8_byteAt 60 = .ok (.iconst 0, 1) := by decide +kernel
theorem dX8_byteAt_61 : decode cX8_byteAt 61 = .ok (.istore 5, 2) := by decide +kernel
theorem dX8_byteAt_63 : decode cX8_byteAt 63 = .ok (.iconst 2, 1) := by decide +kernel
theorem dX8_byteAt_64 : decode cX8_byteAt 64 = .ok (.iload_n 3, 1) := by decide +kernel
theorem dX8_byteAt_65 : decode cX8_byteAt 65 = .ok (.imul, 1) := by decide +kernel
theorem dX8_byteAt_66 : decode cX8_byteAt 66 = .ok (.iload 5, 2) := by decide +kernel
theorem dX8_byteAt_68 : decode cX8_byteAt 68 = .ok (.iadd, 1) := by decide +kernel
theorem dX8_byteAt_69 : decode cX8_byteAt 69 = .ok (.istore_n 3, 1) := by decide +kernel
theorem dX8_byteAt_70 : decode cX8_byteAt 70 = .ok (.iinc 4 1, 3) := by decide +kernel
theorem dX8_byteAt_73 : decode cX8_byteAt 73 = .ok (.goto (-40), 3) := by decide +kernel
theorem dX8_byteAt_76 : decode cX8_byteAt 76 = .ok (.aload_n 0, 1) := by decide +kernel
theorem dX8_byteAt_77 : decode cX8_byteAt 77 = .ok (.iload_n 3, 1) := by decide +kernel
theorem dX8_byteAt_78 : decode cX8_byteAt 78 = .ok (.invokevirtual 55, 3) := by decide +kernel
theorem dX8_byteAt_81 : decode cX8_byteAt 81 = .ok (.ireturn, 1) := by decide +kernel
set_option maxRecDepth 20000 in
theorem ggX8_clearCount_X8_told : GoodIn wsX8_clearCount wsX8_told := goodIn_r _ [6, 7, 8, 9, 10, 11, 12, 13, 14, 15, 16, 17, 18, 19, 20, 21, 22, 23, 24, 25, 26, 27, 28, 29, 30, 31, 32, 33, 34] (by decide +kernel) (by decide +kernel)
set_option maxRecDepth 20000 in
theorem gX8_clearCount_X8_told : GoodIn wsX8_clearCount (wsV RX8 55 RX8 yX8_told wsX8_told) := goodIn_app (goodIn_of _ (by decide +kernel)) ggX8_clearCount_X8_told
theorem dX8_clearCount_0 : decode cX8_clearCount 0 = .ok (.aload_n 0, 1) := by decide +kernel
theorem dX8_clearCount_1 : decode cX8_clearCount 1 = .ok (.aload_n 0, 1) := by decide +kernel
theorem dX8_clearCount_2 : decode cX8_clearCount 2 = .ok (.getfield 17, 3) := by decide +kernel
theorem dX8_clearCount_5 : decode cX8_clearCount 5 = .ok (.bipush 8, 2) := by decide +kernel
theorem dX8_clearCount_7 : decode cX8_clearCount 7 = .ok (.iaload, 1) := by decide +kernel
theorem dX8_clearCount_8 : decode cX8_clearCount 8 = .ok (.invokevirtual 55, 3) := by decide +kernel
theorem dX8_clearCount_11 : decode cX8_clearCount 11 = .ok (.ireturn, 1) := by decide +kernel
set_option maxRecDepth 20000 in
theorem ggX8_codesSinceClear_X8_told : GoodIn wsX8_codesSinceClear wsX8_told := goodIn_r _ [6, 7, 8, 9, 10, 11, 12, 13, 14, 15, 16, 17, 18, 19, 20, 21, 22, 23, 24, 25, 26, 27, 28, 29, 30, 31, 32, 33, 34] (by decide +kernel) (by decide +kernel)
set_option maxRecDepth 20000 in
theorem gX8_codesSinceClear_X8_told : GoodIn wsX8_codesSinceClear (wsV RX8 55 RX8 yX8_told wsX8_told) := goodIn_app (goodIn_of _ (by decide +kernel)) ggX8_codesSinceClear_X8_told
theorem dX8_codesSinceClear_0 : decode cX8_codesSinceClear 0 = .ok (.aload_n 0, 1) := by decide +kernel
theorem dX8_codesSinceClear_1 : decode cX8_codesSinceClear 1 = .ok (.aload_n 0, 1) := by decide +kernel
theorem dX8_codesSinceClear_2 : decode cX8_codesSinceClear 2 = .ok (.getfield 17, 3) := by decide +kernel
theorem dX8_codesSinceClear_5 : decode cX8_codesSinceClear 5 = .ok (.bipush 7, 2) := by decide +kernel
theorem dX8_codesSinceClear_7 : decode cX8_codesSinceClear 7 = .ok (.iaload, 1) := by decide +kernel
theorem dX8_codesSinceClear_8 : decode cX8_codesSinceClear 8 = .ok (.aload_n 0, 1) := by decide +kernel
theorem dX8_codesSinceClear_9 : decode cX8_codesSinceClear 9 = .ok (.getfield 17, 3) := by decide +kernel
theorem dX8_codesSinceClear_12 : decode cX8_codesSinceClear 12 = .ok (.bipush 9, 2) := by decide +kernel
theorem dX8_codesSinceClear_14 : decode cX8_codesSinceClear 14 = .ok (.iaload, 1) := by decide +kernel
theorem dX8_codesSinceClear_15 : decode cX8_codesSinceClear 15 = .ok (.isub, 1) := by decide +kernel
theorem dX8_codesSinceClear_16 : decode cX8_codesSinceClear 16 = .ok (.invokevirtual 55, 3) := by decide +kernel
theorem dX8_codesSinceClear_19 : decode cX8_codesSinceClear 19 = .ok (.ireturn, 1) := by decide +kernel
set_option maxRecDepth 20000 in
theorem ggX8_symbolsSinceClear_X8_symbolsSince : GoodIn wsX8_symbolsSinceClear wsX8_symbolsSince := goodIn_r _ [5, 6, 7, 8, 9, 4, 10, 11, 12, 13, 14, 15, 16, 17, 18, 19, 20, 21, 22, 28, 29, 30, 31, 32, 33, 34, 35, 36, 37, 38, 39, 40, 41, 42, 43, 44, 45, 46, 47, 48, 49, 50, 51, 52, 53, 54] (by decide +kernel) (by decide +kernel)
set_option maxRecDepth 20000 in
theorem gX8_symbolsSinceClear_X8_symbolsSince : GoodIn wsX8_symbolsSinceClear (wsV RX8 114 RX8 yX8_symbolsSince wsX8_symbolsSince) := goodIn_app (goodIn_of _ (by decide +kernel)) ggX8_symbolsSinceClear_X8_symbolsSince
set_option maxRecDepth 20000 in
theorem ggX8_symbolsSinceClear_X8_told : GoodIn wsX8_symbolsSinceClear wsX8_told := goodIn_r _ [26, 27, 28, 29, 30, 31, 32, 33, 34, 35, 36, 37, 38, 39, 40, 41, 42, 43, 44, 45, 46, 47, 48, 49, 50, 51, 52, 53, 54] (by decide +kernel) (by decide +kernel)
set_option maxRecDepth 20000 in
theorem gX8_symbolsSinceClear_X8_told : GoodIn wsX8_symbolsSinceClear (wsV RX8 55 RX8 yX8_told wsX8_told) := goodIn_app (goodIn_of _ (by decide +kernel)) ggX8_symbolsSinceClear_X8_told
theorem dX8_symbolsSinceClear_0 : decode cX8_symbolsSinceClear 0 = .ok (.aload_n 0, 1) := by decide +kernel
theorem dX8_symbolsSinceClear_1 : decode cX8_symbolsSinceClear 1 = .ok (.aload_n 0, 1) := by decide +kernel
theorem dX8_symbolsSinceClear_2 : decode cX8_symbolsSinceClear 2 = .ok (.invokevirtual 114, 3) := by decide +kernel
theorem dX8_symbolsSinceClear_5 : decode cX8_symbolsSinceClear 5 = .ok (.invokevirtual 55, 3) := by decide +kernel
theorem dX8_symbolsSinceClear_8 : decode cX8_symbolsSinceClear 8 = .ok (.ireturn, 1) := by decide +kernel
set_option maxRecDepth 20000 in
theorem ggX8_bitsSinceClear_X8_bitsSince : GoodIn wsX8_bitsSinceClear wsX8_bitsSince := goodIn_r _ [5, 6, 7, 8, 9, 4, 10, 11, 12, 13, 14, 20, 21, 22, 23, 24, 25, 26, 27, 28, 29, 30, 31, 32, 33, 34, 35, 36, 37, 38, 39, 40, 41, 42, 43, 44, 45, 46] (by decide +kernel) (by decide +kernel)
set_option maxRecDepth 20000 in
theorem gX8_bitsSinceClear_X8_bitsSince : GoodIn wsX8_bitsSinceClear (wsV RX8 111 RX8 yX8_bitsSince wsX8_bitsSince) := goodIn_app (goodIn_of _ (by decide +kernel)) ggX8_bitsSinceClear_X8_bitsSince
set_option maxRecDepth 20000 in
theorem ggX8_bitsSinceClear_X8_told : GoodIn wsX8_bitsSinceClear wsX8_told := goodIn_r _ [18, 19, 20, 21, 22, 23, 24, 25, 26, 27, 28, 29, 30, 31, 32, 33, 34, 35, 36, 37, 38, 39, 40, 41, 42, 43, 44, 45, 46] (by decide +kernel) (by decide +kernel)
set_option maxRecDepth 20000 in
theorem gX8_bitsSinceClear_X8_told : GoodIn wsX8_bitsSinceClear (wsV RX8 55 RX8 yX8_told wsX8_told) := goodIn_app (goodIn_of _ (by decide +kernel)) ggX8_bitsSinceClear_X8_told
theorem dX8_bitsSinceClear_0 : decode cX8_bitsSinceClear 0 = .ok (.aload_n 0, 1) := by decide +kernel
theorem dX8_bitsSinceClear_1 : decode cX8_bitsSinceClear 1 = .ok (.aload_n 0, 1) := by decide +kernel
theorem dX8_bitsSinceClear_2 : decode cX8_bitsSinceClear 2 = .ok (.invokevirtual 111, 3) := by decide +kernel
theorem dX8_bitsSinceClear_5 : decode cX8_bitsSinceClear 5 = .ok (.invokevirtual 55, 3) := by decide +kernel
theorem dX8_bitsSinceClear_8 : decode cX8_bitsSinceClear 8 = .ok (.ireturn, 1) := by decide +kernel
set_option maxRecDepth 20000 in
theorem ggX8_percentSinceClear_X8_percent : GoodIn wsX8_percentSinceClear wsX8_percent := goodIn_r _ [5, 6, 7, 8, 4, 9, 10, 11, 12, 13, 14, 15, 16, 17, 18, 19, 20, 21, 22, 23, 24, 25, 26, 27, 28, 29, 30, 31, 32, 33, 34, 35, 36, 37, 38, 39, 40, 41, 42, 43, 44, 45, 46, 47, 48, 49, 55, 56, 57, 58, 59, 60, 61, 62, 63, 64, 65, 66, 67, 68, 69, 70, 71, 72, 73, 74, 75, 76, 77, 78, 79, 80, 81] (by decide +kernel) (by decide +kernel)
set_option maxRecDepth 20000 in
theorem gX8_percentSinceClear_X8_percent : GoodIn wsX8_percentSinceClear (wsV RX8 125 RX8 yX8_percent wsX8_percent) := goodIn_app (goodIn_of _ (by decide +kernel)) ggX8_percentSinceClear_X8_percent
set_option maxRecDepth 20000 in
theorem ggX8_percentSinceClear_X8_told : GoodIn wsX8_percentSinceClear wsX8_told := goodIn_r _ [53, 54, 55, 56, 57, 58, 59, 60, 61, 62, 63, 64, 65, 66, 67, 68, 69, 70, 71, 72, 73, 74, 75, 76, 77, 78, 79, 80, 81] (by decide +kernel) (by decide +kernel)
set_option maxRecDepth 20000 in
theorem gX8_percentSinceClear_X8_told : GoodIn wsX8_percentSinceClear (wsV RX8 55 RX8 yX8_told wsX8_told) := goodIn_app (goodIn_of _ (by decide +kernel)) ggX8_percentSinceClear_X8_told
theorem dX8_percentSinceClear_0 : decode cX8_percentSinceClear 0 = .ok (.aload_n 0, 1) := by decide +kernel
theorem dX8_percentSinceClear_1 : decode cX8_percentSinceClear 1 = .ok (.aload_n 0, 1) := by decide +kernel
theorem dX8_percentSinceClear_2 : decode cX8_percentSinceClear 2 = .ok (.invokevirtual 125, 3) := by decide +kernel
theorem dX8_percentSinceClear_5 : decode cX8_percentSinceClear 5 = .ok (.invokevirtual 55, 3) := by decide +kernel
theorem dX8_percentSinceClear_8 : decode cX8_percentSinceClear 8 = .ok (.ireturn, 1) := by decide +kernel
set_option maxRecDepth 20000 in
theorem ggX8_savedBits_X8_plain : GoodIn wsX8_savedBits wsX8_plain := goodIn_r _ [6, 1, 7, 8, 5, 9, 27, 28, 29, 30, 31, 32, 33, 34, 35, 36, 37, 38, 39, 40, 41, 42, 43, 44, 45, 46, 47, 48, 49, 50, 51, 52, 53] (by decide +kernel) (by decide +kernel)
set_option maxRecDepth 20000 in
theorem gX8_savedBits_X8_plain : GoodIn wsX8_savedBits (wsV RX8 108 RX8 yX8_plain wsX8_plain) := goodIn_app (goodIn_of _ (by decide +kernel)) ggX8_savedBits_X8_plain
set_option maxRecDepth 20000 in
theorem ggX8_savedBits_X8_allBits : GoodIn wsX8_savedBits wsX8_allBits := goodIn_r _ [13, 14, 15, 16, 5, 17, 1, 18, 19, 20, 21, 27, 28, 29, 30, 31, 32, 33, 34, 35, 36, 37, 38, 39, 40, 41, 42, 43, 44, 45, 46, 47, 48, 49, 50, 51, 52, 53] (by decide +kernel) (by decide +kernel)
set_option maxRecDepth 20000 in
theorem gX8_savedBits_X8_allBits : GoodIn wsX8_savedBits (wsV RX8 344 RX8 yX8_allBits wsX8_allBits) := goodIn_app (goodIn_of _ (by decide +kernel)) ggX8_savedBits_X8_allBits
set_option maxRecDepth 20000 in
theorem ggX8_savedBits_X8_told : GoodIn wsX8_savedBits wsX8_told := goodIn_r _ [25, 26, 27, 28, 29, 30, 31, 32, 33, 34, 35, 36, 37, 38, 39, 40, 41, 42, 43, 44, 45, 46, 47, 48, 49, 50, 51, 52, 53] (by decide +kernel) (by decide +kernel)
set_option maxRecDepth 20000 in
theorem gX8_savedBits_X8_told : GoodIn wsX8_savedBits (wsV RX8 55 RX8 yX8_told wsX8_told) := goodIn_app (goodIn_of _ (by decide +kernel)) ggX8_savedBits_X8_told
theorem dX8_savedBits_0 : decode cX8_savedBits 0 = .ok (.aload_n 0, 1) := by decide +kernel
theorem dX8_savedBits_1 : decode cX8_savedBits 1 = .ok (.aload_n 0, 1) := by decide +kernel
theorem dX8_savedBits_2 : decode cX8_savedBits 2 = .ok (.getfield 17, 3) := by decide +kernel
theorem dX8_savedBits_5 : decode cX8_savedBits 5 = .ok (.bipush 13, 2) := by decide +kernel
theorem dX8_savedBits_7 : decode cX8_savedBits 7 = .ok (.iaload, 1) := by decide +kernel
theorem dX8_savedBits_8 : decode cX8_savedBits 8 = .ok (.aload_n 0, 1) := by decide +kernel
theorem dX8_savedBits_9 : decode cX8_savedBits 9 = .ok (.invokevirtual 108, 3) := by decide +kernel
theorem dX8_savedBits_12 : decode cX8_savedBits 12 = .ok (.imul, 1) := by decide +kernel
theorem dX8_savedBits_13 : decode cX8_savedBits 13 = .ok (.aload_n 0, 1) := by decide +kernel
theorem dX8_savedBits_14 : decode cX8_savedBits 14 = .ok (.invokevirtual 344, 3) := by decide +kernel
theorem dX8_savedBits_17 : decode cX8_savedBits 17 = .ok (.isub, 1) := by decide +kernel
theorem dX8_savedBits_18 : decode cX8_savedBits 18 = .ok (.invokevirtual 55, 3) := by decide +kernel
theorem dX8_savedBits_21 : decode cX8_savedBits 21 = .ok (.ireturn, 1) := by decide +kernel
set_option maxRecDepth 20000 in
theorem ggX8_bitsPerSymbol_X8_allBits : GoodIn wsX8_bitsPerSymbol wsX8_allBits := goodIn_r _ [7, 8, 9, 10, 6, 11, 2, 12, 13, 14, 15, 16, 17, 18, 19, 20, 21, 22, 23, 24, 25, 26, 27, 28, 29, 30, 31, 32, 33, 34, 35, 36, 37, 38, 39, 40, 41, 42] (by decide +kernel) (by decide +kernel)
set_option maxRecDepth 20000 in
theorem gX8_bitsPerSymbol_X8_allBits : GoodIn wsX8_bitsPerSymbol (wsV RX8 344 RX8 yX8_allBits wsX8_allBits) := goodIn_app (goodIn_of _ (by decide +kernel)) ggX8_bitsPerSymbol_X8_allBits
theorem dX8_bitsPerSymbol_0 : decode cX8_bitsPerSymbol 0 = .ok (.aload_n 0, 1) := by decide +kernel
theorem dX8_bitsPerSymbol_1 : decode cX8_bitsPerSymbol 1 = .ok (.iconst 0, 1) := by decide +kernel
theorem dX8_bitsPerSymbol_2 : decode cX8_bitsPerSymbol 2 = .ok (.putfield 49, 3) := by decide +kernel
theorem dX8_bitsPerSymbol_5 : decode cX8_bitsPerSymbol 5 = .ok (.aload_n 0, 1) := by decide +kernel
theorem dX8_bitsPerSymbol_6 : decode cX8_bitsPerSymbol 6 = .ok (.getfield 17, 3) := by decide +kernel
theorem dX8_bitsPerSymbol_9 : decode cX8_bitsPerSymbol 9 = .ok (.bipush 13, 2) := by decide +kernel
theorem dX8_bitsPerSymbol_11 : decode cX8_bitsPerSymbol 11 = .ok (.iaload, 1) := by decide +kernel
theorem dX8_bitsPerSymbol_12 : decode cX8_bitsPerSymbol 12 = .ok (.ifCond .ne 5, 3) := by decide +kernel
theorem dX8_bitsPerSymbol_15 : decode cX8_bitsPerSymbol 15 = .ok (.dconst 0, 1) := by decide +kernel
theorem dX8_bitsPerSymbol_16 : decode cX8_bitsPerSymbol 16 = .ok (.dreturn, 1) := by decide +kernel
theorem dX8_bitsPerSymbol_17 : decode cX8_bitsPerSymbol 17 = .ok (.aload_n 0, 1) := by decide +kernel
theorem dX8_bitsPerSymbol_18 : decode cX8_bitsPerSymbol 18 = .ok (.invokevirtual 344, 3) := by decide +kernel
theorem dX8_bitsPerSymbol_21 : decode cX8_bitsPerSymbol 21 = .ok (.i2d, 1) := by decide +kernel
theorem dX8_bitsPerSymbol_22 : decode cX8_bitsPerSymbol 22 = .ok (.aload_n 0, 1) := by decide +kernel
theorem dX8_bitsPerSymbol_23 : decode cX8_bitsPerSymbol 23 = .ok (.getfield 17, 3) := by decide +kernel
theorem dX8_bitsPerSymbol_26 : decode cX8_bitsPerSymbol 26 = .ok (.bipush 13, 2) := by decide +kernel
theorem dX8_bitsPerSymbol_28 : decode cX8_bitsPerSymbol 28 = .ok (.iaload, 1) := by decide +kernel
theorem dX8_bitsPerSymbol_29 : decode cX8_bitsPerSymbol 29 = .ok (.i2d, 1) := by decide +kernel
theorem dX8_bitsPerSymbol_30 : decode cX8_bitsPerSymbol 30 = .ok (.ddiv, 1) := by decide +kernel
theorem dX8_bitsPerSymbol_31 : decode cX8_bitsPerSymbol 31 = .ok (.dreturn, 1) := by decide +kernel
set_option maxRecDepth 20000 in
theorem ggX8_fillShare_X8_mostCodes : GoodIn wsX8_fillShare wsX8_mostCodes := goodIn_r _ [7, 2, 8, 9, 10, 11, 12, 13, 14, 15, 16, 17, 18, 19, 20, 21, 22, 23, 24, 25, 26, 27, 28, 29, 30, 31, 32, 33, 34] (by decide +kernel) (by decide +kernel)
set_option maxRecDepth 20000 in
theorem gX8_fillShare_X8_mostCodes : GoodIn wsX8_fillShare (wsV RX8 76 RX8 yX8_mostCodes wsX8_mostCodes) := goodIn_app (goodIn_of _ (by decide +kernel)) ggX8_fillShare_X8_mostCodes
theorem dX8_fillShare_0 : decode cX8_fillShare 0 = .ok (.aload_n 0, 1) := by decide +kernel
theorem dX8_fillShare_1 : decode cX8_fillShare 1 = .ok (.iconst 0, 1) := by decide +kernel
theorem dX8_fillShare_2 : decode cX8_fillShare 2 = .ok (.putfield 49, 3) := by decide +kernel
theorem dX8_fillShare_5 : decode cX8_fillShare 5 = .ok (.aload_n 0, 1) := by decide +kernel
theorem dX8_fillShare_6 : decode cX8_fillShare 6 = .ok (.getfield 17, 3) := by decide +kernel
theorem dX8_fillShare_9 : decode cX8_fillShare 9 = .ok (.iconst 4, 1) := by decide +kernel
theorem dX8_fillShare_10 : decode cX8_fillShare 10 = .ok (.iaload, 1) := by decide +kernel
theorem dX8_fillShare_11 : decode cX8_fillShare 11 = .ok (.i2f, 1) := by decide +kernel
theorem dX8_fillShare_12 : decode cX8_fillShare 12 = .ok (.aload_n 0, 1) := by decide +kernel
theorem dX8_fillShare_13 : decode cX8_fillShare 13 = .ok (.invokevirtual 76, 3) := by decide +kernel
theorem dX8_fillShare_16 : decode cX8_fillShare 16 = .ok (.i2f, 1) := by decide +kernel
theorem dX8_fillShare_17 : decode cX8_fillShare 17 = .ok (.fdiv, 1) := by decide +kernel
theorem dX8_fillShare_18 : decode cX8_fillShare 18 = .ok (.freturn, 1) := by decide +kernel
set_option maxRecDepth 20000 in
theorem ggX8_decodedCount_X8_told : GoodIn wsX8_decodedCount wsX8_told := goodIn_r _ [6, 7, 8, 9, 10, 11, 12, 13, 14, 15, 16, 17, 18, 19, 20, 21, 22, 23, 24, 25, 26, 27, 28, 29, 30, 31, 32, 33, 34] (by decide +kernel) (by decide +kernel)
set_option maxRecDepth 20000 in
theorem gX8_decodedCount_X8_told : GoodIn wsX8_decodedCount (wsV RX8 55 RX8 yX8_told wsX8_told) := goodIn_app (goodIn_of _ (by decide +kernel)) ggX8_decodedCount_X8_told
theorem dX8_decodedCount_0 : decode cX8_decodedCount 0 = .ok (.aload_n 0, 1) := by decide +kernel
theorem dX8_decodedCount_1 : decode cX8_decodedCount 1 = .ok (.aload_n 0, 1) := by decide +kernel
theorem dX8_decodedCount_2 : decode cX8_decodedCount 2 = .ok (.getfield 307, 3) := by decide +kernel
theorem dX8_decodedCount_5 : decode cX8_decodedCount 5 = .ok (.invokevirtual 55, 3) := by decide +kernel
theorem dX8_decodedCount_8 : decode cX8_decodedCount 8 = .ok (.ireturn, 1) := by decide +kernel
set_option maxRecDepth 20000 in
theorem ggX8_decodedSymbol_X8_in : GoodIn wsX8_decodedSymbol wsX8_in := goodIn_r _ [6] (by decide +kernel) (by decide +kernel)
set_option maxRecDepth 20000 in
theorem gX8_decodedSymbol_X8_in : GoodIn wsX8_decodedSymbol (va_wsS RX8 62 yX8_in wsX8_in) := goodIn_app (goodIn_of _ (by decide +kernel)) ggX8_decodedSymbol_X8_in
set_option maxRecDepth 20000 in
theorem ggX8_decodedSymbol_X8_throwing : GoodIn wsX8_decodedSymbol wsX8_throwing := goodIn_r _ [10, 11, 16, 17, 18, 19, 20, 21, 22, 23, 24, 25, 26, 27, 28, 29, 30, 31, 32, 33, 34, 35, 36, 37, 38, 39, 40, 41, 42] (by decide +kernel) (by decide +kernel)
set_option maxRecDepth 20000 in
theorem gX8_decodedSymbol_X8_throwing : GoodIn wsX8_decodedSymbol (wsV RX8 59 RX8 yX8_throwing wsX8_throwing) := goodIn_app (goodIn_of _ (by decide +kernel)) ggX8_decodedSymbol_X8_throwing
set_option maxRecDepth 20000 in
theorem ggX8_decodedSymbol_X8_told : GoodIn wsX8_decodedSymbol wsX8_told := goodIn_r _ [15, 11, 16, 17, 18, 19, 20, 21, 22, 23, 24, 25, 26, 27, 28, 29, 30, 31, 32, 33, 34, 35, 36, 37, 38, 39, 40, 41, 42] (by decide +kernel) (by decide +kernel)
set_option maxRecDepth 20000 in
theorem gX8_decodedSymbol_X8_told : GoodIn wsX8_decodedSymbol (wsV RX8 55 RX8 yX8_told wsX8_told) := goodIn_app (goodIn_of _ (by decide +kernel)) ggX8_decodedSymbol_X8_told
theorem dX8_decodedSymbol_0 : decode cX8_decodedSymbol 0 = .ok (.iload_n 1, 1) := by decide +kernel
theorem dX8_decodedSymbol_1 : decode cX8_decodedSymbol 1 = .ok (.iconst 0, 1) := by decide +kernel
theorem dX8_decodedSymbol_2 : decode cX8_decodedSymbol 2 = .ok (.aload_n 0, 1) := by decide +kernel
theorem dX8_decodedSymbol_3 : decode cX8_decodedSymbol 3 = .ok (.getfield 307, 3) := by decide +kernel
theorem dX8_decodedSymbol_6 : decode cX8_decodedSymbol 6 = .ok (.iconst 1, 1) := by decide +kernel
theorem dX8_decodedSymbol_7 : decode cX8_decodedSymbol 7 = .ok (.isub, 1) := by decide +kernel
theorem dX8_decodedSymbol_8 : decode cX8_decodedSymbol 8 = .ok (.invokestatic 62, 3) := by decide +kernel
theorem dX8_decodedSymbol_11 : decode cX8_decodedSymbol 11 = .ok (.ifCond .ne 9, 3) := by decide +kernel
theorem dX8_decodedSymbol_14 : decode cX8_decodedSymbol 14 = .ok (.aload_n 0, 1) := by decide +kernel
theorem dX8_decodedSymbol_15 : decode cX8_decodedSymbol 15 = .ok (.iconst 1, 1) := by decide +kernel
theorem dX8_decodedSymbol_16 : decode cX8_decodedSymbol 16 = .ok (.invokevirtual 59, 3) := by decide +kernel
theorem dX8_decodedSymbol_19 : decode cX8_decodedSymbol 19 = .ok (.ireturn, 1) := by decide +kernel
theorem dX8_decodedSymbol_20 : decode cX8_decodedSymbol 20 = .ok (.aload_n 0, 1) := by decide +kernel
theorem dX8_decodedSymbol_21 : decode cX8_decodedSymbol 21 = .ok (.aload_n 0, 1) := by decide +kernel
theorem dX8_decodedSymbol_22 : decode cX8_decodedSymbol 22 = .ok (.getfield 43, 3) := by decide +kernel
theorem dX8_decodedSymbol_25 : decode cX8_decodedSymbol 25 = .ok (.iload_n 1, 1) := by decide +kernel
theorem dX8_decodedSymbol_26 : decode cX8_decodedSymbol 26 = .ok (.iaload, 1) := by decide +kernel
theorem dX8_decodedSymbol_27 : decode cX8_decodedSymbol 27 = .ok (.invokevirtual 55, 3) := by decide +kernel
theorem dX8_decodedSymbol_30 : decode cX8_decodedSymbol 30 = .ok (.ireturn, 1) := by decide +kernel
set_option maxRecDepth 20000 in
theorem ggX8_longestDecodedRun_X8_more : GoodIn wsX8_longestDecodedRun wsX8_more := goodIn_r _ [6] (by decide +kernel) (by decide +kernel)
set_option maxRecDepth 20000 in
theorem gX8_longestDecodedRun_X8_more : GoodIn wsX8_longestDecodedRun (va_wsS RX8 278 yX8_more wsX8_more) := goodIn_app (goodIn_of _ (by decide +kernel)) ggX8_longestDecodedRun_X8_more
set_option maxRecDepth 20000 in
theorem ggX8_longestDecodedRun_X8_told : GoodIn wsX8_longestDecodedRun wsX8_told := goodIn_r _ [10, 11, 12, 13, 14, 15, 16, 17, 18, 19, 20, 21, 22, 23, 24, 25, 26, 27, 28, 29, 30, 31, 32, 33, 34, 35, 36, 37, 38] (by decide +kernel) (by decide +kernel)
set_option maxRecDepth 20000 in
theorem gX8_longestDecodedRun_X8_told : GoodIn wsX8_longestDecodedRun (wsV RX8 55 RX8 yX8_told wsX8_told) := goodIn_app (goodIn_of _ (by decide +kernel)) ggX8_longestDecodedRun_X8_told
theorem dX8_longestDecodedRun_0 : decode cX8_longestDecodedRun 0 = .ok (.iconst 0, 1) := by decide +kernel
theorem dX8_longestDecodedRun_1 : decode cX8_longestDecodedRun 1 = .ok (.istore_n 1, 1) := by decide +kernel
theorem dX8_longestDecodedRun_2 : decode cX8_longestDecodedRun 2 = .ok (.iconst 0, 1) := by decide +kernel
theorem dX8_longestDecodedRun_3 : decode cX8_longestDecodedRun 3 = .ok (.istore_n 2, 1) := by decide +kernel
theorem dX8_longestDecodedRun_4 : decode cX8_longestDecodedRun 4 = .ok (.iconst 0, 1) := by decide +kernel
theorem dX8_longestDecodedRun_5 : decode cX8_longestDecodedRun 5 = .ok (.istore_n 3, 1) := by decide +kernel
theorem dX8_longestDecodedRun_6 : decode cX8_longestDecodedRun 6 = .ok (.iload_n 3, 1) := by decide +kernel
theorem dX8_longestDecodedRun_7 : decode cX8_longestDecodedRun 7 = .ok (.aload_n 0, 1) := by decide +kernel
theorem dX8_longestDecodedRun_8 : decode cX8_longestDecodedRun 8 = .ok (.getfield 307, 3) := by decide +kernel
theorem dX8_longestDecodedRun_11 : decode cX8_longestDecodedRun 11 = .ok (.if_icmp .ge 56, 3) := by decide +kernel
theorem dX8_longestDecodedRun_14 : decode cX8_longestDecodedRun 14 = .ok (.iload_n 3, 1) := by decide +kernel
theorem dX8_longestDecodedRun_15 : decode cX8_longestDecodedRun 15 = .ok (.ifCond .le 24, 3) := by decide +kernel
theorem dX8_longestDecodedRun_18 : decode cX8_longestDecodedRun 18 = .ok (.aload_n 0, 1) := by decide +kernel
theorem dX8_longestDecodedRun_19 : decode cX8_longestDecodedRun 19 = .ok (.getfield 43, 3) := by decide +kernel
theorem dX8_longestDecodedRun_22 : decode cX8_longestDecodedRun 22 = .ok (.iload_n 3, 1) := by decide +kernel
theorem dX8_longestDecodedRun_23 : decode cX8_longestDecodedRun 23 = .ok (.iaload, 1) := by decide +kernel
theorem dX8_longestDecodedRun_24 : decode cX8_longestDecodedRun 24 = .ok (.aload_n 0, 1) := by decide +kernel
theorem dX8_longestDecodedRun_25 : decode cX8_longestDecodedRun 25 = .ok (.getfield 43, 3) := by decide +kernel
theorem dX8_longestDecodedRun_28 : decode cX8_longestDecodedRun 28 = .ok (.iload_n 3, 1) := by decide +kernel
theorem dX8_longestDecodedRun_29 : decode cX8_longestDecodedRun 29 = .ok (.iconst 1, 1) := by decide +kernel
theorem dX8_longestDecodedRun_30 : decode cX8_longestDecodedRun 30 = .ok (.isub, 1) := by decide +kernel
theorem dX8_longestDecodedRun_31 : decode cX8_longestDecodedRun 31 = .ok (.iaload, 1) := by decide +kernel
theorem dX8_longestDecodedRun_32 : decode cX8_longestDecodedRun 32 = .ok (.if_icmp .ne 7, 3) := by decide +kernel
theorem dX8_longestDecodedRun_35 : decode cX8_longestDecodedRun 35 = .ok (.iconst 1, 1) := by decide +kernel
theorem dX8_longestDecodedRun_36 : decode cX8_longestDecodedRun 36 = .ok (.goto 4, 3) := by decide +kernel
theorem dX8_longestDecodedRun_39 : decode cX8_longestDecodedRun 39 = .ok (.iconst 0, 1) := by decide +kernel
theorem dX8_longestDecodedRun_40 : decode cX8_longestDecodedRun 40 = .ok (.istore 4, 2) := by decide +kernel
theorem dX8_longestDecodedRun_42 : decode cX8_longestDecodedRun 42 = .ok (.iload 4, 2) := by decide +kernel
theorem dX8_longestDecodedRun_44 : decode cX8_longestDecodedRun 44 = .ok (.ifCond .eq 9, 3) := by decide +kernel
theorem dX8_longestDecodedRun_47 : decode cX8_longestDecodedRun 47 = .ok (.iload_n 2, 1) := by decide +kernel
theorem dX8_longestDecodedRun_48 : decode cX8_longestDecodedRun 48 = .ok (.iconst 1, 1) := by decide +kernel
theorem dX8_longestDecodedRun_49 : decode cX8_longestDecodedRun 49 = .ok (.iadd, 1) := by decide +kernel
theorem dX8_longestDecodedRun_50 : decode cX8_longestDecodedRun 50 = .ok (.goto 4, 3) := by decide +kernel
theorem dX8_longestDecodedRun_53 : decode cX8_longestDecodedRun 53 = .ok (.iconst 1, 1) := by decide +kernel
theorem dX8_longestDecodedRun_54 : decode cX8_longestDecodedRun 54 = .ok (.istore_n 2, 1) := by decide +kernel
theorem dX8_longestDecodedRun_55 : decode cX8_longestDecodedRun 55 = .ok (.iload_n 1, 1) := by decide +kernel
theorem dX8_longestDecodedRun_56 : decode cX8_longestDecodedRun 56 = .ok (.iload_n 2, 1) := by decide +kernel
theorem dX8_longestDecodedRun_57 : decode cX8_longestDecodedRun 57 = .ok (.invokestatic 278, 3) := by decide +kernel
theorem dX8_longestDecodedRun_60 : decode cX8_longestDecodedRun 60 = .ok (.istore_n 1, 1) := by decide +kernel
theorem dX8_longestDecodedRun_61 : decode cX8_longestDecodedRun 61 = .ok (.iinc 3 1, 3) := by decide +kernel
theorem dX8_longestDecodedRun_64 : decode cX8_longestDecodedRun 64 = .ok (.goto (-58), 3) := by decide +kernel
theorem dX8_longestDecodedRun_67 : decode cX8_longestDecodedRun 67 = .ok (.aload_n 0, 1) := by decide +kernel
theorem dX8_longestDecodedRun_68 : decode cX8_longestDecodedRun 68 = .ok (.iload_n 1, 1) := by decide +kernel
theorem dX8_longestDecodedRun_69 : decode cX8_longestDecodedRun 69 = .ok (.invokevirtual 55, 3) := by decide +kernel
theorem dX8_longestDecodedRun_72 : decode cX8_longestDecodedRun 72 = .ok (.ireturn, 1) := by decide +kernel
set_option maxRecDepth 20000 in
theorem ggX8_restoredCount_X8_decodesWritten : GoodIn wsX8_restoredCount wsX8_decodesWritten := goodIn_r _ [6, 7, 8, 9, 10, 5, 11, 12, 13, 1, 14, 15, 16, 17, 18, 19, 20, 21, 22, 23, 24, 25, 26, 27, 28, 29, 30, 31, 32, 33, 34, 35, 36, 37, 38, 39, 40, 41, 42, 43, 44, 45, 46, 47, 48, 49, 50, 51, 52, 53, 54, 55, 56, 57, 58, 59, 60, 61, 62, 63, 64, 65, 66, 67, 68, 69, 70, 71, 72, 73, 74, 75, 81, 82, 83, 84, 85, 86, 87, 88, 89, 90, 91, 92, 93, 94, 95, 96, 97, 98, 99, 100, 101, 102, 103, 104, 105, 106, 107] (by decide +kernel) (by decide +kernel)
set_option maxRecDepth 20000 in
theorem gX8_restoredCount_X8_decodesWritten : GoodIn wsX8_restoredCount (wsV RX8 353 RX8 yX8_decodesWritten wsX8_decodesWritten) := goodIn_app (goodIn_of _ (by decide +kernel)) ggX8_restoredCount_X8_decodesWritten
set_option maxRecDepth 20000 in
theorem ggX8_restoredCount_X8_told : GoodIn wsX8_restoredCount wsX8_told := goodIn_r _ [79, 80, 81, 82, 83, 84, 85, 86, 87, 88, 89, 90, 91, 92, 93, 94, 95, 96, 97, 98, 99, 100, 101, 102, 103, 104, 105, 106, 107] (by decide +kernel) (by decide +kernel)
set_option maxRecDepth 20000 in
theorem gX8_restoredCount_X8_told : GoodIn wsX8_restoredCount (wsV RX8 55 RX8 yX8_told wsX8_told) := goodIn_app (goodIn_of _ (by decide +kernel)) ggX8_restoredCount_X8_told
theorem dX8_restoredCount_0 : decode cX8_restoredCount 0 = .ok (.aload_n 0, 1) := by decide +kernel
theorem dX8_restoredCount_1 : decode cX8_restoredCount 1 = .ok (.invokevirtual 353, 3) := by decide +kernel
theorem dX8_restoredCount_4 : decode cX8_restoredCount 4 = .ok (.aload_n 0, 1) := by decide +kernel
theorem dX8_restoredCount_5 : decode cX8_restoredCount 5 = .ok (.aload_n 0, 1) := by decide +kernel
theorem dX8_restoredCount_6 : decode cX8_restoredCount 6 = .ok (.getfield 178, 3) := by decide +kernel
theorem dX8_restoredCount_9 : decode cX8_restoredCount 9 = .ok (.invokevirtual 55, 3) := by decide +kernel
theorem dX8_restoredCount_12 : decode cX8_restoredCount 12 = .ok (.ireturn, 1) := by decide +kernel
theorem dX8_areEncoded_0 : decode cX8_areEncoded 0 = .ok (.iconst 1, 1) := by decide +kernel
theorem dX8_areEncoded_1 : decode cX8_areEncoded 1 = .ok (.istore_n 1, 1) := by decide +kernel
theorem dX8_areEncoded_2 : decode cX8_areEncoded 2 = .ok (.iconst 0, 1) := by decide +kernel
theorem dX8_areEncoded_3 : decode cX8_areEncoded 3 = .ok (.istore_n 2, 1) := by decide +kernel
theorem dX8_areEncoded_4 : decode cX8_areEncoded 4 = .ok (.iload_n 2, 1) := by decide +kernel
theorem dX8_areEncoded_5 : decode cX8_areEncoded 5 = .ok (.aload_n 0, 1) := by decide +kernel
theorem dX8_areEncoded_6 : decode cX8_areEncoded 6 = .ok (.getfield 178, 3) := by decide +kernel
theorem dX8_areEncoded_9 : decode cX8_areEncoded 9 = .ok (.if_icmp .ge 38, 3) := by decide +kernel
theorem dX8_areEncoded_12 : decode cX8_areEncoded 12 = .ok (.iload_n 1, 1) := by decide +kernel
theorem dX8_areEncoded_13 : decode cX8_areEncoded 13 = .ok (.ifCond .eq 34, 3) := by decide +kernel
theorem dX8_areEncoded_16 : decode cX8_areEncoded 16 = .ok (.aload_n 0, 1) := by decide +kernel
theorem dX8_areEncoded_17 : decode cX8_areEncoded 17 = .ok (.getfield 40, 3) := by decide +kernel
theorem dX8_areEncoded_20 : decode cX8_areEncoded 20 = .ok (.iload_n 2, 1) := by decide +kernel
theorem dX8_areEncoded_21 : decode cX8_areEncoded 21 = .ok (.iaload, 1) := by decide +kernel
theorem dX8_areEncoded_22 : decode cX8_areEncoded 22 = .ok (.aload_n 0, 1) := by decide +kernel
theorem dX8_areEncoded_23 : decode cX8_areEncoded 23 = .ok (.getfield 17, 3) := by decide +kernel
theorem dX8_areEncoded_26 : decode cX8_areEncoded 26 = .ok (.sipush 526, 3) := by decide +kernel
theorem dX8_areEncoded_29 : decode cX8_areEncoded 29 = .ok (.iload_n 2, 1) := by decide +kernel
theorem dX8_areEncoded_30 : decode cX8_areEncoded 30 = .ok (.iadd, 1) := by decide +kernel
theorem dX8_areEncoded_31 : decode cX8_areEncoded 31 = .ok (.iaload, 1) := by decide +kernel
theorem dX8_areEncoded_32 : decode cX8_areEncoded 32 = .ok (.if_icmp .ne 7, 3) := by decide +kernel
theorem dX8_areEncoded_35 : decode cX8_areEncoded 35 = .ok (.iconst 1, 1) := by decide +kernel
theorem dX8_areEncoded_36 : decode cX8_areEncoded 36 = .ok (.goto 4, 3) := by decide +kernel
theorem dX8_areEncoded_39 : decode cX8_areEncoded 39 = .ok (.iconst 0, 1) := by decide +kernel
theorem dX8_areEncoded_40 : decode cX8_areEncoded 40 = .ok (.istore_n 1, 1) := by decide +kernel
theorem dX8_areEncoded_41 : decode cX8_areEncoded 41 = .ok (.iinc 2 1, 3) := by decide +kernel
theorem dX8_areEncoded_44 : decode cX8_areEncoded 44 = .ok (.goto (-40), 3) := by decide +kernel
theorem dX8_areEncoded_47 : decode cX8_areEncoded 47 = .ok (.iload_n 1, 1) := by decide +kernel
theorem dX8_areEncoded_48 : decode cX8_areEncoded 48 = .ok (.ireturn, 1) := by decide +kernel
set_option maxRecDepth 20000 in
theorem ggX8_isRestored_X8_decodesWritten : GoodIn wsX8_isRestored wsX8_decodesWritten := goodIn_r _ [7, 2, 8, 9, 10, 6, 11, 12, 13, 1, 14, 15, 16, 17, 18, 19, 20, 21, 22, 23, 24, 25, 26, 27, 28, 29, 30, 31, 32, 33, 34, 35, 36, 37, 38, 39, 40, 41, 42, 43, 44, 45, 46, 47, 48, 49, 50, 51, 52, 53, 54, 55, 56, 57, 58, 59, 60, 61, 62, 63, 64, 65, 66, 67, 68, 69, 70, 71, 72, 73, 74, 75, 85, 86, 87, 88, 89, 90, 91, 92, 93, 94, 95, 96, 97, 98, 99, 100, 101, 102, 103, 104, 105, 106, 107, 108, 109, 110, 111] (by decide +kernel) (by decide +kernel)
set_option maxRecDepth 20000 in
theorem gX8_isRestored_X8_decodesWritten : GoodIn wsX8_isRestored (wsV RX8 353 RX8 yX8_decodesWritten wsX8_decodesWritten) := goodIn_app (goodIn_of _ (by decide +kernel)) ggX8_isRestored_X8_decodesWritten
set_option maxRecDepth 20000 in
theorem ggX8_isRestored_X8_toldIf : GoodIn wsX8_isRestored wsX8_toldIf := goodIn_r _ [79, 80, 85, 86, 87, 88, 89, 90, 91, 92, 93, 94, 95, 96, 97, 98, 99, 100, 101, 102, 103, 104, 105, 106, 107, 108, 109, 110, 111] (by decide +kernel) (by decide +kernel)
set_option maxRecDepth 20000 in
theorem gX8_isRestored_X8_toldIf : GoodIn wsX8_isRestored (wsV RX8 316 RX8 yX8_toldIf wsX8_toldIf) := goodIn_app (goodIn_of _ (by decide +kernel)) ggX8_isRestored_X8_toldIf
set_option maxRecDepth 20000 in
theorem ggX8_isRestored_X8_areEncoded : GoodIn wsX8_isRestored wsX8_areEncoded := goodIn_r _ [84, 1, 75, 2, 85, 86, 87, 88, 89, 90, 91, 92, 93, 94, 95, 96, 97, 98, 99, 100, 101, 102, 103, 104, 105, 106, 107, 108, 109, 110, 111] (by decide +kernel) (by decide +kernel)
set_option maxRecDepth 20000 in
theorem gX8_isRestored_X8_areEncoded : GoodIn wsX8_isRestored (wsV RX8 356 RX8 yX8_areEncoded wsX8_areEncoded) := goodIn_app (goodIn_of _ (by decide +kernel)) ggX8_isRestored_X8_areEncoded
theorem dX8_isRestored_0 : decode cX8_isRestored 0 = .ok (.aload_n 0, 1) := by decide +kernel
theorem dX8_isRestored_1 : decode cX8_isRestored 1 = .ok (.invokevirtual 353, 3) := by decide +kernel
theorem dX8_isRestored_4 : decode cX8_isRestored 4 = .ok (.aload_n 0, 1) := by decide +kernel
theorem dX8_isRestored_5 : decode cX8_isRestored 5 = .ok (.getfield 178, 3) := by decide +kernel
theorem dX8_isRestored_8 : decode cX8_isRestored 8 = .ok (.aload_n 0, 1) := by decide +kernel
theorem dX8_isRestored_9 : decode cX8_isRestored 9 = .ok (.getfield 17, 3) := by decide +kernel
theorem dX8_isRestored_12 : decode cX8_isRestored 12 = .ok (.bipush 13, 2) := by decide +kernel
theorem dX8_isRestored_14 : decode cX8_isRestored 14 = .ok (.iaload, 1) := by decide +kernel
theorem dX8_isRestored_15 : decode cX8_isRestored 15 = .ok (.if_icmp .eq 9, 3) := by decide +kernel
theorem dX8_isRestored_18 : decode cX8_isRestored 18 = .ok (.aload_n 0, 1) := by decide +kernel
theorem dX8_isRestored_19 : decode cX8_isRestored 19 = .ok (.iconst 0, 1) := by decide +kernel
theorem dX8_isRestored_20 : decode cX8_isRestored 20 = .ok (.invokevirtual 316, 3) := by decide +kernel
theorem dX8_isRestored_23 : decode cX8_isRestored 23 = .ok (.ireturn, 1) := by decide +kernel
theorem dX8_isRestored_24 : decode cX8_isRestored 24 = .ok (.aload_n 0, 1) := by decide +kernel
theorem dX8_isRestored_25 : decode cX8_isRestored 25 = .ok (.aload_n 0, 1) := by decide +kernel
theorem dX8_isRestored_26 : decode cX8_isRestored 26 = .ok (.invokevirtual 356, 3) := by decide +kernel
theorem dX8_isRestored_29 : decode cX8_isRestored 29 = .ok (.invokevirtual 316, 3) := by decide +kernel
theorem dX8_isRestored_32 : decode cX8_isRestored 32 = .ok (.ireturn, 1) := by decide +kernel
theorem dX8_says_0 : decode cX8_says 0 = .ok (.aload_n 0, 1) := by decide +kernel
theorem dX8_says_1 : decode cX8_says 1 = .ok (.getfield 46, 3) := by decide +kernel
theorem dX8_says_4 : decode cX8_says 4 = .ok (.aload_n 0, 1) := by decide +kernel
theorem dX8_says_5 : decode cX8_says 5 = .ok (.getfield 359, 3) := by decide +kernel
theorem dX8_says_8 : decode cX8_says 8 = .ok (.iload_n 1, 1) := by decide +kernel
theorem dX8_says_9 : decode cX8_says 9 = .ok (.i2b, 1) := by decide +kernel
theorem dX8_says_10 : decode cX8_says 10 = .ok (.bastore, 1) := by decide +kernel
theorem dX8_says_11 : decode cX8_says 11 = .ok (.aload_n 0, 1) := by decide +kernel
theorem dX8_says_12 : decode cX8_says 12 = .ok (.dup, 1) := by decide +kernel
theorem dX8_says_13 : decode cX8_says 13 = .ok (.getfield 359, 3) := by decide +kernel
theorem dX8_says_16 : decode cX8_says 16 = .ok (.iconst 1, 1) := by decide +kernel
theorem dX8_says_17 : decode cX8_says 17 = .ok (.iadd, 1) := by decide +kernel
theorem dX8_says_18 : decode cX8_says 18 = .ok (.putfield 359, 3) := by decide +kernel
theorem dX8_says_21 : decode cX8_says 21 = .ok (.return_, 1) := by decide +kernel
set_option maxRecDepth 20000 in
theorem ggX8_saysWord_X8_says : GoodIn wsX8_saysWord wsX8_says := goodIn_r _ [6, 7, 8, 9, 10, 11, 12, 13, 14, 15, 16, 17, 18, 19, 20, 21, 22, 23, 24, 25, 26, 27, 28, 29, 30, 31, 32, 33, 34, 35] (by decide +kernel) (by decide +kernel)
set_option maxRecDepth 20000 in
theorem gX8_saysWord_X8_says : GoodIn wsX8_saysWord (wsV RX8 364 RX8 yX8_says wsX8_says) := goodIn_app (goodIn_of _ (by decide +kernel)) ggX8_saysWord_X8_says
theorem dX8_saysWord_0 : decode cX8_saysWord 0 = .ok (.iconst 0, 1) := by decide +kernel
theorem dX8_saysWord_1 : decode cX8_saysWord 1 = .ok (.istore_n 3, 1) := by decide +kernel
theorem dX8_saysWord_2 : decode cX8_saysWord 2 = .ok (.lload_n 1, 1) := by decide +kernel
theorem dX8_saysWord_3 : decode cX8_saysWord 3 = .ok (.iload_n 3, 1) := by decide +kernel
theorem dX8_saysWord_4 : decode cX8_saysWord 4 = .ok (.iconst 5, 1) := by decide +kernel
theorem dX8_saysWord_5 : decode cX8_saysWord 5 = .ok (.iadd, 1) := by decide +kernel
theorem dX8_saysWord_6 : decode cX8_saysWord 6 = .ok (.lshr, 1) := by decide +kernel
theorem dX8_saysWord_7 : decode cX8_saysWord 7 = .ok (.lconst 0, 1) := by decide +kernel
theorem dX8_saysWord_8 : decode cX8_saysWord 8 = .ok (.lcmp, 1) := by decide +kernel
theorem dX8_saysWord_9 : decode cX8_saysWord 9 = .ok (.ifCond .le 9, 3) := by decide +kernel
theorem dX8_saysWord_12 : decode cX8_saysWord 12 = .ok (.iinc 3 5, 3) := by decide +kernel
theorem dX8_saysWord_15 : decode cX8_saysWord 15 = .ok (.goto (-13), 3) := by decide +kernel
theorem dX8_saysWord_18 : decode cX8_saysWord 18 = .ok (.iload_n 3, 1) := by decide +kernel
theorem dX8_saysWord_19 : decode cX8_saysWord 19 = .ok (.ifCond .lt 24, 3) := by decide +kernel
theorem dX8_saysWord_22 : decode cX8_saysWord 22 = .ok (.aload_n 0, 1) := by decide +kernel
theorem dX8_saysWord_23 : decode cX8_saysWord 23 = .ok (.bipush 96, 2) := by decide +kernel
theorem dX8_saysWord_25 : decode cX8_saysWord 25 = .ok (.lload_n 1, 1) := by decide +kernel
theorem dX8_saysWord_26 : decode cX8_saysWord 26 = .ok (.iload_n 3, 1) := by decide +kernel
theorem dX8_saysWord_27 : decode cX8_saysWord 27 = .ok (.lshr, 1) := by decide +kernel
theorem dX8_saysWord_28 : decode cX8_saysWord 28 = .ok (.ldc2_w 362, 3) := by decide +kernel
theorem dX8_saysWord_31 : decode cX8_saysWord 31 = .ok (.land, 1) := by decide +kernel
theorem dX8_saysWord_32 : decode cX8_saysWord 32 = .ok (.l2i, 1) := by decide +kernel
theorem dX8_saysWord_33 : decode cX8_saysWord 33 = .ok (.iadd, 1) := by decide +kernel
theorem dX8_saysWord_34 : decode cX8_saysWord 34 = .ok (.invokevirtual 364, 3) := by decide +kernel
theorem dX8_saysWord_37 : decode cX8_saysWord 37 = .ok (.iinc 3 (-5), 3) := by decide +kernel
theorem dX8_saysWord_40 : decode cX8_saysWord 40 = .ok (.goto (-22), 3) := by decide +kernel
theorem dX8_saysWord_43 : decode cX8_saysWord 43 = .ok (.return_, 1) := by decide +kernel
set_option maxRecDepth 20000 in
theorem ggX8_saysPart_X8_says : GoodIn wsX8_saysPart wsX8_says := goodIn_r _ [5, 6, 7, 8, 9, 10, 11, 12, 13, 14, 15, 16, 17, 18, 19, 20, 21, 22, 23, 24, 25, 26, 27, 28, 29, 30, 31, 32, 33, 34] (by decide +kernel) (by decide +kernel)
set_option maxRecDepth 20000 in
theorem gX8_saysPart_X8_says : GoodIn wsX8_saysPart (wsV RX8 364 RX8 yX8_says wsX8_says) := goodIn_app (goodIn_of _ (by decide +kernel)) ggX8_saysPart_X8_says
theorem dX8_saysPart_0 : decode cX8_saysPart 0 = .ok (.iconst 1, 1) := by decide +kernel
theorem dX8_saysPart_1 : decode cX8_saysPart 1 = .ok (.istore_n 2, 1) := by decide +kernel
theorem dX8_saysPart_2 : decode cX8_saysPart 2 = .ok (.iload_n 1, 1) := by decide +kernel
theorem dX8_saysPart_3 : decode cX8_saysPart 3 = .ok (.iload_n 2, 1) := by decide +kernel
theorem dX8_saysPart_4 : decode cX8_saysPart 4 = .ok (.idiv, 1) := by decide +kernel
theorem dX8_saysPart_5 : decode cX8_saysPart 5 = .ok (.bipush 9, 2) := by decide +kernel
theorem dX8_saysPart_7 : decode cX8_saysPart 7 = .ok (.if_icmp .le 11, 3) := by decide +kernel
theorem dX8_saysPart_10 : decode cX8_saysPart 10 = .ok (.iload_n 2, 1) := by decide +kernel
theorem dX8_saysPart_11 : decode cX8_saysPart 11 = .ok (.bipush 10, 2) := by decide +kernel
theorem dX8_saysPart_13 : decode cX8_saysPart 13 = .ok (.imul, 1) := by decide +kernel
theorem dX8_saysPart_14 : decode cX8_saysPart 14 = .ok (.istore_n 2, 1) := by decide +kernel
theorem dX8_saysPart_15 : decode cX8_saysPart 15 = .ok (.goto (-13), 3) := by decide +kernel
theorem dX8_saysPart_18 : decode cX8_saysPart 18 = .ok (.aload_n 0, 1) := by decide +kernel
theorem dX8_saysPart_19 : decode cX8_saysPart 19 = .ok (.bipush 32, 2) := by decide +kernel
theorem dX8_saysPart_21 : decode cX8_saysPart 21 = .ok (.invokevirtual 364, 3) := by decide +kernel
theorem dX8_saysPart_24 : decode cX8_saysPart 24 = .ok (.iload_n 2, 1) := by decide +kernel
theorem dX8_saysPart_25 : decode cX8_saysPart 25 = .ok (.ifCond .le 24, 3) := by decide +kernel
theorem dX8_saysPart_28 : decode cX8_saysPart 28 = .ok (.aload_n 0, 1) := by decide +kernel
theorem dX8_saysPart_29 : decode cX8_saysPart 29 = .ok (.bipush 48, 2) := by decide +kernel
theorem dX8_saysPart_31 : decode cX8_saysPart 31 = .ok (.iload_n 1, 1) := by decide +kernel
theorem dX8_saysPart_32 : decode cX8_saysPart 32 = .ok (.iload_n 2, 1) := by decide +kernel
theorem dX8_saysPart_33 : decode cX8_saysPart 33 = .ok (.idiv, 1) := by decide +kernel
theorem dX8_saysPart_34 : decode cX8_saysPart 34 = .ok (.bipush 10, 2) := by decide +kernel
theorem dX8_saysPart_36 : decode cX8_saysPart 36 = .ok (.irem, 1) := by decide +kernel
theorem dX8_saysPart_37 : decode cX8_saysPart 37 = .ok (.iadd, 1) := by decide +kernel
theorem dX8_saysPart_38 : decode cX8_saysPart 38 = .ok (.invokevirtual 364, 3) := by decide +kernel
theorem dX8_saysPart_41 : decode cX8_saysPart 41 = .ok (.iload_n 2, 1) := by decide +kernel
theorem dX8_saysPart_42 : decode cX8_saysPart 42 = .ok (.bipush 10, 2) := by decide +kernel
theorem dX8_saysPart_44 : decode cX8_saysPart 44 = .ok (.idiv, 1) := by decide +kernel
theorem dX8_saysPart_45 : decode cX8_saysPart 45 = .ok (.istore_n 2, 1) := by decide +kernel
theorem dX8_saysPart_46 : decode cX8_saysPart 46 = .ok (.goto (-22), 3) := by decide +kernel
theorem dX8_saysPart_49 : decode cX8_saysPart 49 = .ok (.return_, 1) := by decide +kernel
theorem dX8_policyKey_0 : decode cX8_policyKey 0 = .ok (.aload_n 0, 1) := by decide +kernel
theorem dX8_policyKey_1 : decode cX8_policyKey 1 = .ok (.getfield 17, 3) := by decide +kernel
theorem dX8_policyKey_4 : decode cX8_policyKey 4 = .ok (.iconst 2, 1) := by decide +kernel
theorem dX8_policyKey_5 : decode cX8_policyKey 5 = .ok (.iaload, 1) := by decide +kernel
theorem dX8_policyKey_6 : decode cX8_policyKey 6 = .ok (.ifCond .ne 7, 3) := by decide +kernel
theorem dX8_policyKey_9 : decode cX8_policyKey 9 = .ok (.ldc2_w 263, 3) := by decide +kernel
theorem dX8_policyKey_12 : decode cX8_policyKey 12 = .ok (.lreturn, 1) := by decide +kernel
theorem dX8_policyKey_13 : decode cX8_policyKey 13 = .ok (.aload_n 0, 1) := by decide +kernel
theorem dX8_policyKey_14 : decode cX8_policyKey 14 = .ok (.getfield 17, 3) := by decide +kernel
theorem dX8_policyKey_17 : decode cX8_policyKey 17 = .ok (.iconst 2, 1) := by decide +kernel
theorem dX8_policyKey_18 : decode cX8_policyKey 18 = .ok (.iaload, 1) := by decide +kernel
theorem dX8_policyKey_19 : decode cX8_policyKey 19 = .ok (.iconst 1, 1) := by decide +kernel
theorem dX8_policyKey_20 : decode cX8_policyKey 20 = .ok (.if_icmp .ne 7, 3) := by decide +kernel
theorem dX8_policyKey_23 : decode cX8_policyKey 23 = .ok (.ldc2_w 269, 3) := by decide +kernel
theorem dX8_policyKey_26 : decode cX8_policyKey 26 = .ok (.lreturn, 1) := by decide +kernel
theorem dX8_policyKey_27 : decode cX8_policyKey 27 = .ok (.ldc2_w 271, 3) := by decide +kernel
theorem dX8_policyKey_30 : decode cX8_policyKey 30 = .ok (.lreturn, 1) := by decide +kernel
set_option maxRecDepth 20000 in
theorem ggX8_writesSettings_X8_saysWord : GoodIn wsX8_writesSettings wsX8_saysWord := goodIn_r _ [7, 8, 9, 10, 11, 6, 12, 13, 14, 26, 27, 28, 29, 30, 31, 32, 33, 34, 35, 36, 37, 38, 39, 40, 41, 42, 43, 44, 45, 46, 47, 48, 49, 50, 51, 52] (by decide +kernel) (by decide +kernel)
set_option maxRecDepth 20000 in
theorem gX8_writesSettings_X8_saysWord : GoodIn wsX8_writesSettings (wsV RX8 367 RX8 yX8_saysWord wsX8_saysWord) := goodIn_app (goodIn_of _ (by decide +kernel)) ggX8_writesSettings_X8_saysWord
set_option maxRecDepth 20000 in
theorem ggX8_writesSettings_X8_saysPart : GoodIn wsX8_writesSettings wsX8_saysPart := goodIn_r _ [18, 9, 10, 11, 6, 12, 13, 14, 26, 27, 28, 29, 30, 31, 32, 33, 34, 35, 36, 37, 38, 39, 40, 41, 42, 43, 44, 45, 46, 47, 48, 49, 50, 51, 52] (by decide +kernel) (by decide +kernel)
set_option maxRecDepth 20000 in
theorem gX8_writesSettings_X8_saysPart : GoodIn wsX8_writesSettings (wsV RX8 371 RX8 yX8_saysPart wsX8_saysPart) := goodIn_app (goodIn_of _ (by decide +kernel)) ggX8_writesSettings_X8_saysPart
set_option maxRecDepth 20000 in
theorem ggX8_writesSettings_X8_says : GoodIn wsX8_writesSettings wsX8_says := goodIn_r _ [12, 13, 14, 26, 27, 28, 29, 30, 31, 32, 33, 34, 35, 36, 37, 38, 39, 40, 41, 42, 43, 44, 45, 46, 47, 48, 49, 50, 51, 52] (by decide +kernel) (by decide +kernel)
set_option maxRecDepth 20000 in
theorem gX8_writesSettings_X8_says : GoodIn wsX8_writesSettings (wsV RX8 364 RX8 yX8_says wsX8_says) := goodIn_app (goodIn_of _ (by decide +kernel)) ggX8_writesSettings_X8_says
set_option maxRecDepth 20000 in
theorem ggX8_writesSettings_X8_policyKey : GoodIn wsX8_writesSettings wsX8_policyKey := goodIn_r _ [22, 2, 23, 24, 25, 26, 27, 28, 29, 30, 31, 32, 33, 34, 35, 36, 37, 38, 39, 40, 41, 42, 43, 44, 45, 46, 47, 48, 49, 50, 51, 52] (by decide +kernel) (by decide +kernel)
set_option maxRecDepth 20000 in
theorem gX8_writesSettings_X8_policyKey : GoodIn wsX8_writesSettings (wsV RX8 374 RX8 yX8_policyKey wsX8_policyKey) := goodIn_app (goodIn_of _ (by decide +kernel)) ggX8_writesSettings_X8_policyKey
theorem dX8_writesSettings_0 : decode cX8_writesSettings 0 = .ok (.aload_n 0, 1) := by decide +kernel
theorem dX8_writesSettings_1 : decode cX8_writesSettings 1 = .ok (.ldc2_w 273, 3) := by decide +kernel
theorem dX8_writesSettings_4 : decode cX8_writesSettings 4 = .ok (.invokevirtual 367, 3) := by decide +kernel
theorem dX8_writesSettings_7 : decode cX8_writesSettings 7 = .ok (.aload_n 0, 1) := by decide +kernel
theorem dX8_writesSettings_8 : decode cX8_writesSettings 8 = .ok (.aload_n 0, 1) := by decide +kernel
theorem dX8_writesSettings_9 : decode cX8_writesSettings 9 = .ok (.getfield 17, 3) := by decide +kernel
theorem dX8_writesSettings_12 : decode cX8_writesSettings 12 = .ok (.iconst 0, 1) := by decide +kernel
theorem dX8_writesSettings_13 : decode cX8_writesSettings 13 = .ok (.iaload, 1) := by decide +kernel
theorem dX8_writesSettings_14 : decode cX8_writesSettings 14 = .ok (.invokevirtual 371, 3) := by decide +kernel
theorem dX8_writesSettings_17 : decode cX8_writesSettings 17 = .ok (.aload_n 0, 1) := by decide +kernel
theorem dX8_writesSettings_18 : decode cX8_writesSettings 18 = .ok (.aload_n 0, 1) := by decide +kernel
theorem dX8_writesSettings_19 : decode cX8_writesSettings 19 = .ok (.getfield 17, 3) := by decide +kernel
theorem dX8_writesSettings_22 : decode cX8_writesSettings 22 = .ok (.iconst 1, 1) := by decide +kernel
theorem dX8_writesSettings_23 : decode cX8_writesSettings 23 = .ok (.iaload, 1) := by decide +kernel
theorem dX8_writesSettings_24 : decode cX8_writesSettings 24 = .ok (.invokevirtual 371, 3) := by decide +kernel
theorem dX8_writesSettings_27 : decode cX8_writesSettings 27 = .ok (.aload_n 0, 1) := by decide +kernel
theorem dX8_writesSettings_28 : decode cX8_writesSettings 28 = .ok (.bipush 32, 2) := by decide +kernel
theorem dX8_writesSettings_30 : decode cX8_writesSettings 30 = .ok (.invokevirtual 364, 3) := by decide +kernel
theorem dX8_writesSettings_33 : decode cX8_writesSettings 33 = .ok (.aload_n 0, 1) := by decide +kernel
theorem dX8_writesSettings_34 : decode cX8_writesSettings 34 = .ok (.aload_n 0, 1) := by decide +kernel
theorem dX8_writesSettings_35 : decode cX8_writesSettings 35 = .ok (.invokevirtual 374, 3) := by decide +kernel
theorem dX8_writesSettings_38 : decode cX8_writesSettings 38 = .ok (.invokevirtual 367, 3) := by decide +kernel
theorem dX8_writesSettings_41 : decode cX8_writesSettings 41 = .ok (.aload_n 0, 1) := by decide +kernel
theorem dX8_writesSettings_42 : decode cX8_writesSettings 42 = .ok (.aload_n 0, 1) := by decide +kernel
theorem dX8_writesSettings_43 : decode cX8_writesSettings 43 = .ok (.getfield 17, 3) := by decide +kernel
theorem dX8_writesSettings_46 : decode cX8_writesSettings 46 = .ok (.iconst 3, 1) := by decide +kernel
theorem dX8_writesSettings_47 : decode cX8_writesSettings 47 = .ok (.iaload, 1) := by decide +kernel
theorem dX8_writesSettings_48 : decode cX8_writesSettings 48 = .ok (.invokevirtual 371, 3) := by decide +kernel
theorem dX8_writesSettings_51 : decode cX8_writesSettings 51 = .ok (.aload_n 0, 1) := by decide +kernel
theorem dX8_writesSettings_52 : decode cX8_writesSettings 52 = .ok (.bipush 59, 2) := by decide +kernel
theorem dX8_writesSettings_54 : decode cX8_writesSettings 54 = .ok (.invokevirtual 364, 3) := by decide +kernel
theorem dX8_writesSettings_57 : decode cX8_writesSettings 57 = .ok (.return_, 1) := by decide +kernel
set_option maxRecDepth 20000 in
theorem ggX8_writesSymbols_X8_saysWord : GoodIn wsX8_writesSymbols wsX8_saysWord := goodIn_r _ [7, 8, 9, 10, 11, 6, 12, 13, 14, 15, 16, 17, 18, 19, 20, 21, 22, 23, 24, 25, 26, 27, 28, 29, 30, 31, 32, 33, 34, 35, 36, 37, 38, 39, 40, 41] (by decide +kernel) (by decide +kernel)
set_option maxRecDepth 20000 in
theorem gX8_writesSymbols_X8_saysWord : GoodIn wsX8_writesSymbols (wsV RX8 367 RX8 yX8_saysWord wsX8_saysWord) := goodIn_app (goodIn_of _ (by decide +kernel)) ggX8_writesSymbols_X8_saysWord
set_option maxRecDepth 20000 in
theorem ggX8_writesSymbols_X8_says : GoodIn wsX8_writesSymbols wsX8_says := goodIn_r _ [12, 13, 14, 15, 16, 17, 18, 19, 20, 21, 22, 23, 24, 25, 26, 27, 28, 29, 30, 31, 32, 33, 34, 35, 36, 37, 38, 39, 40, 41] (by decide +kernel) (by decide +kernel)
set_option maxRecDepth 20000 in
theorem gX8_writesSymbols_X8_says : GoodIn wsX8_writesSymbols (wsV RX8 364 RX8 yX8_says wsX8_says) := goodIn_app (goodIn_of _ (by decide +kernel)) ggX8_writesSymbols_X8_says
theorem dX8_writesSymbols_0 : decode cX8_writesSymbols 0 = .ok (.aload_n 0, 1) := by decide +kernel
theorem dX8_writesSymbols_1 : decode cX8_writesSymbols 1 = .ok (.ldc2_w 290, 3) := by decide +kernel
theorem dX8_writesSymbols_4 : decode cX8_writesSymbols 4 = .ok (.invokevirtual 367, 3) := by decide +kernel
theorem dX8_writesSymbols_7 : decode cX8_writesSymbols 7 = .ok (.aload_n 0, 1) := by decide +kernel
theorem dX8_writesSymbols_8 : decode cX8_writesSymbols 8 = .ok (.bipush 32, 2) := by decide +kernel
theorem dX8_writesSymbols_10 : decode cX8_writesSymbols 10 = .ok (.invokevirtual 364, 3) := by decide +kernel
theorem dX8_writesSymbols_13 : decode cX8_writesSymbols 13 = .ok (.iconst 0, 1) := by decide +kernel
theorem dX8_writesSymbols_14 : decode cX8_writesSymbols 14 = .ok (.istore_n 1, 1) := by decide +kernel
theorem dX8_writesSymbols_15 : decode cX8_writesSymbols 15 = .ok (.iload_n 1, 1) := by decide +kernel
theorem dX8_writesSymbols_16 : decode cX8_writesSymbols 16 = .ok (.aload_n 0, 1) := by decide +kernel
theorem dX8_writesSymbols_17 : decode cX8_writesSymbols 17 = .ok (.getfield 17, 3) := by decide +kernel
theorem dX8_writesSymbols_20 : decode cX8_writesSymbols 20 = .ok (.bipush 6, 2) := by decide +kernel
theorem dX8_writesSymbols_22 : decode cX8_writesSymbols 22 = .ok (.iaload, 1) := by decide +kernel
theorem dX8_writesSymbols_23 : decode cX8_writesSymbols 23 = .ok (.if_icmp .ge 26, 3) := by decide +kernel
theorem dX8_writesSymbols_26 : decode cX8_writesSymbols 26 = .ok (.aload_n 0, 1) := by decide +kernel
theorem dX8_writesSymbols_27 : decode cX8_writesSymbols 27 = .ok (.bipush 97, 2) := by decide +kernel
theorem dX8_writesSymbols_29 : decode cX8_writesSymbols 29 = .ok (.aload_n 0, 1) := by decide +kernel
theorem dX8_writesSymbols_30 : decode cX8_writesSymbols 30 = .ok (.getfield 17, 3) := by decide +kernel
theorem dX8_writesSymbols_33 : decode cX8_writesSymbols 33 = .ok (.sipush 526, 3) := by decide +kernel
theorem dX8_writesSymbols_36 : decode cX8_writesSymbols 36 = .ok (.iload_n 1, 1) := by decide +kernel
theorem dX8_writesSymbols_37 : decode cX8_writesSymbols 37 = .ok (.iadd, 1) := by decide +kernel
theorem dX8_writesSymbols_38 : decode cX8_writesSymbols 38 = .ok (.iaload, 1) := by decide +kernel
theorem dX8_writesSymbols_39 : decode cX8_writesSymbols 39 = .ok (.iadd, 1) := by decide +kernel
theorem dX8_writesSymbols_40 : decode cX8_writesSymbols 40 = .ok (.invokevirtual 364, 3) := by decide +kernel
theorem dX8_writesSymbols_43 : decode cX8_writesSymbols 43 = .ok (.iinc 1 1, 3) := by decide +kernel
theorem dX8_writesSymbols_46 : decode cX8_writesSymbols 46 = .ok (.goto (-31), 3) := by decide +kernel
theorem dX8_writesSymbols_49 : decode cX8_writesSymbols 49 = .ok (.aload_n 0, 1) := by decide +kernel
theorem dX8_writesSymbols_50 : decode cX8_writesSymbols 50 = .ok (.bipush 59, 2) := by decide +kernel
theorem dX8_writesSymbols_52 : decode cX8_writesSymbols 52 = .ok (.invokevirtual 364, 3) := by decide +kernel
theorem dX8_writesSymbols_55 : decode cX8_writesSymbols 55 = .ok (.return_, 1) := by decide +kernel
set_option maxRecDepth 20000 in
theorem ggX8_writesSetup_X8_writesSettings : GoodIn wsX8_writesSetup wsX8_writesSettings := goodIn_r _ [7, 8, 2, 9, 10, 11, 6, 12, 13, 14, 15, 16, 17, 18, 1, 19, 20, 21, 22, 23, 24, 25, 26, 27, 28, 29, 35, 36, 37, 38, 39, 40, 41, 42, 43, 44, 45, 46, 47, 48, 49, 50, 51, 52, 53, 54, 55, 56, 57, 58, 59, 60, 61] (by decide +kernel) (by decide +kernel)
set_option maxRecDepth 20000 in
theorem gX8_writesSetup_X8_writesSettings : GoodIn wsX8_writesSetup (wsV RX8 378 RX8 yX8_writesSettings wsX8_writesSettings) := goodIn_app (goodIn_of _ (by decide +kernel)) ggX8_writesSetup_X8_writesSettings
set_option maxRecDepth 20000 in
theorem ggX8_writesSetup_X8_writesSymbols : GoodIn wsX8_writesSetup wsX8_writesSymbols := goodIn_r _ [33, 34, 2, 9, 10, 11, 6, 12, 13, 14, 15, 16, 17, 18, 1, 35, 36, 37, 38, 39, 40, 41, 42, 43, 44, 45, 46, 47, 48, 49, 50, 51, 52, 53, 54, 55, 56, 57, 58, 59, 60, 61] (by decide +kernel) (by decide +kernel)
set_option maxRecDepth 20000 in
theorem gX8_writesSetup_X8_writesSymbols : GoodIn wsX8_writesSetup (wsV RX8 381 RX8 yX8_writesSymbols wsX8_writesSymbols) := goodIn_app (goodIn_of _ (by decide +kernel)) ggX8_writesSetup_X8_writesSymbols
theorem dX8_writesSetup_0 : decode cX8_writesSetup 0 = .ok (.aload_n 0, 1) := by decide +kernel
theorem dX8_writesSetup_1 : decode cX8_writesSetup 1 = .ok (.iconst 0, 1) := by decide +kernel
theorem dX8_writesSetup_2 : decode cX8_writesSetup 2 = .ok (.putfield 359, 3) := by decide +kernel
theorem dX8_writesSetup_5 : decode cX8_writesSetup 5 = .ok (.aload_n 0, 1) := by decide +kernel
theorem dX8_writesSetup_6 : decode cX8_writesSetup 6 = .ok (.invokevirtual 378, 3) := by decide +kernel
theorem dX8_writesSetup_9 : decode cX8_writesSetup 9 = .ok (.aload_n 0, 1) := by decide +kernel
theorem dX8_writesSetup_10 : decode cX8_writesSetup 10 = .ok (.getfield 17, 3) := by decide +kernel
theorem dX8_writesSetup_13 : decode cX8_writesSetup 13 = .ok (.bipush 6, 2) := by decide +kernel
theorem dX8_writesSetup_15 : decode cX8_writesSetup 15 = .ok (.iaload, 1) := by decide +kernel
theorem dX8_writesSetup_16 : decode cX8_writesSetup 16 = .ok (.ifCond .le 7, 3) := by decide +kernel
theorem dX8_writesSetup_19 : decode cX8_writesSetup 19 = .ok (.aload_n 0, 1) := by decide +kernel
theorem dX8_writesSetup_20 : decode cX8_writesSetup 20 = .ok (.invokevirtual 381, 3) := by decide +kernel
theorem dX8_writesSetup_23 : decode cX8_writesSetup 23 = .ok (.return_, 1) := by decide +kernel
set_option maxRecDepth 20000 in
theorem ggX8_setupLength_X8_writesSetup : GoodIn wsX8_setupLength wsX8_writesSetup := goodIn_r _ [6, 1, 7, 8, 9, 10, 5, 11, 12, 13, 14, 15, 16, 17, 18, 19, 20, 21, 22, 23, 24, 25, 26, 27, 28, 29, 30, 31, 32, 33, 34, 35, 36, 37, 38, 44, 45, 46, 47, 48, 49, 50, 51, 52, 53, 54, 55, 56, 57, 58, 59, 60, 61, 62, 63, 64, 65, 66, 67, 68, 69, 70] (by decide +kernel) (by decide +kernel)
set_option maxRecDepth 20000 in
theorem gX8_setupLength_X8_writesSetup : GoodIn wsX8_setupLength (wsV RX8 384 RX8 yX8_writesSetup wsX8_writesSetup) := goodIn_app (goodIn_of _ (by decide +kernel)) ggX8_setupLength_X8_writesSetup
set_option maxRecDepth 20000 in
theorem ggX8_setupLength_X8_told : GoodIn wsX8_setupLength wsX8_told := goodIn_r _ [42, 43, 44, 45, 46, 47, 48, 49, 50, 51, 52, 53, 54, 55, 56, 57, 58, 59, 60, 61, 62, 63, 64, 65, 66, 67, 68, 69, 70] (by decide +kernel) (by decide +kernel)
set_option maxRecDepth 20000 in
theorem gX8_setupLength_X8_told : GoodIn wsX8_setupLength (wsV RX8 55 RX8 yX8_told wsX8_told) := goodIn_app (goodIn_of _ (by decide +kernel)) ggX8_setupLength_X8_told
theorem dX8_setupLength_0 : decode cX8_setupLength 0 = .ok (.aload_n 0, 1) := by decide +kernel
theorem dX8_setupLength_1 : decode cX8_setupLength 1 = .ok (.invokevirtual 384, 3) := by decide +kernel
theorem dX8_setupLength_4 : decode cX8_setupLength 4 = .ok (.aload_n 0, 1) := by decide +kernel
theorem dX8_setupLength_5 : decode cX8_setupLength 5 = .ok (.aload_n 0, 1) := by decide +kernel
theorem dX8_setupLength_6 : decode cX8_setupLength 6 = .ok (.getfield 359, 3) := by decide +kernel
theorem dX8_setupLength_9 : decode cX8_setupLength 9 = .ok (.invokevirtual 55, 3) := by decide +kernel
theorem dX8_setupLength_12 : decode cX8_setupLength 12 = .ok (.ireturn, 1) := by decide +kernel
set_option maxRecDepth 20000 in
theorem ggX8_setupByte_X8_writesSetup : GoodIn wsX8_setupByte wsX8_writesSetup := goodIn_r _ [7, 1, 8, 9, 10, 11, 6, 12, 13, 14, 15, 16, 17, 18, 19, 20, 21, 22, 2, 23, 24, 25, 26, 27, 28, 29, 30, 31, 32, 33, 34, 35, 36, 37, 38, 51, 52, 53, 54, 55, 56, 57, 58, 59, 60, 61, 62, 63, 64, 65, 66, 67, 68, 69, 70, 71, 72, 73, 74, 75, 76, 77] (by decide +kernel) (by decide +kernel)
set_option maxRecDepth 20000 in
theorem gX8_setupByte_X8_writesSetup : GoodIn wsX8_setupByte (wsV RX8 384 RX8 yX8_writesSetup wsX8_writesSetup) := goodIn_app (goodIn_of _ (by decide +kernel)) ggX8_setupByte_X8_writesSetup
set_option maxRecDepth 20000 in
theorem ggX8_setupByte_X8_in : GoodIn wsX8_setupByte wsX8_in := goodIn_r _ [41] (by decide +kernel) (by decide +kernel)
set_option maxRecDepth 20000 in
theorem gX8_setupByte_X8_in : GoodIn wsX8_setupByte (va_wsS RX8 62 yX8_in wsX8_in) := goodIn_app (goodIn_of _ (by decide +kernel)) ggX8_setupByte_X8_in
set_option maxRecDepth 20000 in
theorem ggX8_setupByte_X8_throwing : GoodIn wsX8_setupByte wsX8_throwing := goodIn_r _ [45, 46, 51, 52, 53, 54, 55, 56, 57, 58, 59, 60, 61, 62, 63, 64, 65, 66, 67, 68, 69, 70, 71, 72, 73, 74, 75, 76, 77] (by decide +kernel) (by decide +kernel)
set_option maxRecDepth 20000 in
theorem gX8_setupByte_X8_throwing : GoodIn wsX8_setupByte (wsV RX8 59 RX8 yX8_throwing wsX8_throwing) := goodIn_app (goodIn_of _ (by decide +kernel)) ggX8_setupByte_X8_throwing
set_option maxRecDepth 20000 in
theorem ggX8_setupByte_X8_told : GoodIn wsX8_setupByte wsX8_told := goodIn_r _ [50, 46, 51, 52, 53, 54, 55, 56, 57, 58, 59, 60, 61, 62, 63, 64, 65, 66, 67, 68, 69, 70, 71, 72, 73, 74, 75, 76, 77] (by decide +kernel) (by decide +kernel)
set_option maxRecDepth 20000 in
theorem gX8_setupByte_X8_told : GoodIn wsX8_setupByte (wsV RX8 55 RX8 yX8_told wsX8_told) := goodIn_app (goodIn_of _ (by decide +kernel)) ggX8_setupByte_X8_told
theorem dX8_setupByte_0 : decode cX8_setupByte 0 = .ok (.aload_n 0, 1) := by decide +kernel
theorem dX8_setupByte_1 : decode cX8_setupByte 1 = .ok (.invokevirtual 384, 3) := by decide +kernel
theorem dX8_setupByte_4 : decode cX8_setupByte 4 = .ok (.iload_n 1, 1) := by decide +kernel
theorem dX8_setupByte_5 : decode cX8_setupByte 5 = .ok (.iconst 0, 1) := by decide +kernel
theorem dX8_setupByte_6 : decode cX8_setupByte 6 = .ok (.aload_n 0, 1) := by decide +kernel
theorem dX8_setupByte_7 : decode cX8_setupByte 7 = .ok (.getfield 359, 3) := by decide +kernel
theorem dX8_setupByte_10 : decode cX8_setupByte 10 = .ok (.iconst 1, 1) := by decide +kernel
theorem dX8_setupByte_11 : decode cX8_setupByte 11 = .ok (.isub, 1) := by decide +kernel
theorem dX8_setupByte_12 : decode cX8_setupByte 12 = .ok (.invokestatic 62, 3) := by decide +kernel
theorem dX8_setupByte_15 : decode cX8_setupByte 15 = .ok (.ifCond .ne 9, 3) := by decide +kernel
theorem dX8_setupByte_18 : decode cX8_setupByte 18 = .ok (.aload_n 0, 1) := by decide +kernel
theorem dX8_setupByte_19 : decode cX8_setupByte 19 = .ok (.iconst 1, 1) := by decide +kernel
theorem dX8_setupByte_20 : decode cX8_setupByte 20 = .ok (.invokevirtual 59, 3) := by decide +kernel
theorem dX8_setupByte_23 : decode cX8_setupByte 23 = .ok (.ireturn, 1) := by decide +kernel
theorem dX8_setupByte_24 : decode cX8_setupByte 24 = .ok (.aload_n 0, 1) := by decide +kernel
theorem dX8_setupByte_25 : decode cX8_setupByte 25 = .ok (.aload_n 0, 1) := by decide +kernel
theorem dX8_setupByte_26 : decode cX8_setupByte 26 = .ok (.getfield 46, 3) := by decide +kernel
theorem dX8_setupByte_29 : decode cX8_setupByte 29 = .ok (.iload_n 1, 1) := by decide +kernel
theorem dX8_setupByte_30 : decode cX8_setupByte 30 = .ok (.baload, 1) := by decide +kernel
theorem dX8_setupByte_31 : decode cX8_setupByte 31 = .ok (.invokevirtual 55, 3) := by decide +kernel
theorem dX8_setupByte_34 : decode cX8_setupByte 34 = .ok (.ireturn, 1) := by decide +kernel
theorem dJ9_max_7cf53_0 : decode cJ9_max_7cf53 0 = .ok (.iload_n 0, 1) := by decide +kernel
theorem dJ9_max_7cf53_1 : decode cJ9_max_7cf53 1 = .ok (.iload_n 1, 1) := by decide +kernel
theorem dJ9_max_7cf53_2 : decode cJ9_max_7cf53 2 = .ok (.if_icmp .lt 7, 3) := by decide +kernel
theorem dJ9_max_7cf53_5 : decode cJ9_max_7cf53 5 = .ok (.iload_n 0, 1) := by decide +kernel
theorem dJ9_max_7cf53_6 : decode cJ9_max_7cf53 6 = .ok (.goto 4, 3) := by decide +kernel
theorem dJ9_max_7cf53_9 : decode cJ9_max_7cf53 9 = .ok (.iload_n 1, 1) := by decide +kernel
theorem dJ9_max_7cf53_10 : decode cJ9_max_7cf53 10 = .ok (.ireturn, 1) := by decide +kernel
theorem dJ9_min_7cf53_0 : decode cJ9_min_7cf53 0 = .ok (.iload_n 0, 1) := by decide +kernel
theorem dJ9_min_7cf53_1 : decode cJ9_min_7cf53 1 = .ok (.iload_n 1, 1) := by decide +kernel
theorem dJ9_min_7cf53_2 : decode cJ9_min_7cf53 2 = .ok (.if_icmp .gt 7, 3) := by decide +kernel
theorem dJ9_min_7cf53_5 : decode cJ9_min_7cf53 5 = .ok (.iload_n 0, 1) := by decide +kernel
theorem dJ9_min_7cf53_6 : decode cJ9_min_7cf53 6 = .ok (.goto 4, 3) := by decide +kernel
theorem dJ9_min_7cf53_9 : decode cJ9_min_7cf53 9 = .ok (.iload_n 1, 1) := by decide +kernel
theorem dJ9_min_7cf53_10 : decode cJ9_min_7cf53 10 = .ok (.ireturn, 1) := by decide +kernel
set_option maxRecDepth 20000 in
theorem ggJ0_length_8abf5_J0_coder_7d493 : GoodIn wsJ0_length_8abf5 wsJ0_coder_7d493 := goodIn_r _ [6, 7, 8] (by decide +kernel) (by decide +kernel)
set_option maxRecDepth 20000 in
theorem gJ0_length_8abf5_J0_coder_7d493 : GoodIn wsJ0_length_8abf5 (wsV RJ0 335 RJ0 yJ0_coder_7d493 wsJ0_coder_7d493) := goodIn_app (goodIn_of _ (by decide +kernel)) ggJ0_length_8abf5_J0_coder_7d493
theorem dJ0_length_8abf5_0 : decode cJ0_length_8abf5 0 = .ok (.aload_n 0, 1) := by decide +kernel
theorem dJ0_length_8abf5_1 : decode cJ0_length_8abf5 1 = .ok (.getfield 9, 3) := by decide +kernel
theorem dJ0_length_8abf5_4 : decode cJ0_length_8abf5 4 = .ok (.arraylength, 1) := by decide +kernel
theorem dJ0_length_8abf5_5 : decode cJ0_length_8abf5 5 = .ok (.aload_n 0, 1) := by decide +kernel
theorem dJ0_length_8abf5_6 : decode cJ0_length_8abf5 6 = .ok (.invokevirtual 335, 3) := by decide +kernel
theorem dJ0_length_8abf5_9 : decode cJ0_length_8abf5 9 = .ok (.ishr, 1) := by decide +kernel
theorem dJ0_length_8abf5_10 : decode cJ0_length_8abf5 10 = .ok (.ireturn, 1) := by decide +kernel
set_option maxRecDepth 20000 in
theorem ggJ0_charAt_5068e_J0_isLatin1_aae02 : GoodIn wsJ0_charAt_5068e wsJ0_isLatin1_aae02 := goodIn_r _ [6, 7, 8] (by decide +kernel) (by decide +kernel)
set_option maxRecDepth 20000 in
theorem gJ0_charAt_5068e_J0_isLatin1_aae02 : GoodIn wsJ0_charAt_5068e (wsV RJ0 492 RJ0 yJ0_isLatin1_aae02 wsJ0_isLatin1_aae02) := goodIn_app (goodIn_of _ (by decide +kernel)) ggJ0_charAt_5068e_J0_isLatin1_aae02
set_option maxRecDepth 20000 in
theorem ggJ0_charAt_5068e_J1_charAt_3b067 : GoodIn wsJ0_charAt_5068e wsJ1_charAt_3b067 := goodIn_r _ [12, 13, 14, 5, 15, 16, 17, 18, 19, 20] (by decide +kernel) (by decide +kernel)
set_option maxRecDepth 20000 in
theorem gJ0_charAt_5068e_J1_charAt_3b067 : GoodIn wsJ0_charAt_5068e (va_wsS RJ0 495 yJ1_charAt_3b067 wsJ1_charAt_3b067) := goodIn_app (goodIn_of _ (by decide +kernel)) ggJ0_charAt_5068e_J1_charAt_3b067
set_option maxRecDepth 20000 in
theorem ggJ0_charAt_5068e_J2_charAt_3b067 : GoodIn wsJ0_charAt_5068e wsJ2_charAt_3b067 := goodIn_r _ [24, 25, 26, 23, 27, 28, 29, 30, 31, 14, 5, 15, 16, 17, 18, 19, 20, 32, 33, 34, 35, 36, 37] (by decide +kernel) (by decide +kernel)
set_option maxRecDepth 20000 in
theorem gJ0_charAt_5068e_J2_charAt_3b067 : GoodIn wsJ0_charAt_5068e (va_wsS RJ0 498 yJ2_charAt_3b067 wsJ2_charAt_3b067) := goodIn_app (goodIn_of _ (by decide +kernel)) ggJ0_charAt_5068e_J2_charAt_3b067
theorem dJ0_charAt_5068e_0 : decode cJ0_charAt_5068e 0 = .ok (.aload_n 0, 1) := by decide +kernel
theorem dJ0_charAt_5068e_1 : decode cJ0_charAt_5068e 1 = .ok (.invokevirtual 492, 3) := by decide +kernel
theorem dJ0_charAt_5068e_4 : decode cJ0_charAt_5068e 4 = .ok (.ifCond .eq 12, 3) := by decide +kernel
theorem dJ0_charAt_5068e_7 : decode cJ0_charAt_5068e 7 = .ok (.aload_n 0, 1) := by decide +kernel
theorem dJ0_charAt_5068e_8 : decode cJ0_charAt_5068e 8 = .ok (.getfield 9, 3) := by decide +kernel
theorem dJ0_charAt_5068e_11 : decode cJ0_charAt_5068e 11 = .ok (.iload_n 1, 1) := by decide +kernel
theorem dJ0_charAt_5068e_12 : decode cJ0_charAt_5068e 12 = .ok (.invokestatic 495, 3) := by decide +kernel
theorem dJ0_charAt_5068e_15 : decode cJ0_charAt_5068e 15 = .ok (.ireturn, 1) := by decide +kernel
theorem dJ0_charAt_5068e_16 : decode cJ0_charAt_5068e 16 = .ok (.aload_n 0, 1) := by decide +kernel
theorem dJ0_charAt_5068e_17 : decode cJ0_charAt_5068e 17 = .ok (.getfield 9, 3) := by decide +kernel
theorem dJ0_charAt_5068e_20 : decode cJ0_charAt_5068e 20 = .ok (.iload_n 1, 1) := by decide +kernel
theorem dJ0_charAt_5068e_21 : decode cJ0_charAt_5068e 21 = .ok (.invokestatic 498, 3) := by decide +kernel
theorem dJ0_charAt_5068e_24 : decode cJ0_charAt_5068e 24 = .ok (.ireturn, 1) := by decide +kernel
theorem dJ0_coder_7d493_0 : decode cJ0_coder_7d493 0 = .ok (.getstatic 38, 3) := by decide +kernel
theorem dJ0_coder_7d493_3 : decode cJ0_coder_7d493 3 = .ok (.ifCond .eq 10, 3) := by decide +kernel
theorem dJ0_coder_7d493_6 : decode cJ0_coder_7d493 6 = .ok (.aload_n 0, 1) := by decide +kernel
theorem dJ0_coder_7d493_7 : decode cJ0_coder_7d493 7 = .ok (.getfield 15, 3) := by decide +kernel
theorem dJ0_coder_7d493_10 : decode cJ0_coder_7d493 10 = .ok (.goto 4, 3) := by decide +kernel
theorem dJ0_coder_7d493_13 : decode cJ0_coder_7d493 13 = .ok (.iconst 1, 1) := by decide +kernel
theorem dJ0_coder_7d493_14 : decode cJ0_coder_7d493 14 = .ok (.ireturn, 1) := by decide +kernel
theorem dJ0_isLatin1_aae02_0 : decode cJ0_isLatin1_aae02 0 = .ok (.getstatic 38, 3) := by decide +kernel
theorem dJ0_isLatin1_aae02_3 : decode cJ0_isLatin1_aae02 3 = .ok (.ifCond .eq 14, 3) := by decide +kernel
theorem dJ0_isLatin1_aae02_6 : decode cJ0_isLatin1_aae02 6 = .ok (.aload_n 0, 1) := by decide +kernel
theorem dJ0_isLatin1_aae02_7 : decode cJ0_isLatin1_aae02 7 = .ok (.getfield 15, 3) := by decide +kernel
theorem dJ0_isLatin1_aae02_10 : decode cJ0_isLatin1_aae02 10 = .ok (.ifCond .ne 7, 3) := by decide +kernel
theorem dJ0_isLatin1_aae02_13 : decode cJ0_isLatin1_aae02 13 = .ok (.iconst 1, 1) := by decide +kernel
theorem dJ0_isLatin1_aae02_14 : decode cJ0_isLatin1_aae02 14 = .ok (.goto 4, 3) := by decide +kernel
theorem dJ0_isLatin1_aae02_17 : decode cJ0_isLatin1_aae02 17 = .ok (.iconst 0, 1) := by decide +kernel
theorem dJ0_isLatin1_aae02_18 : decode cJ0_isLatin1_aae02 18 = .ok (.ireturn, 1) := by decide +kernel
set_option maxRecDepth 20000 in
theorem ggJ0_checkIndex_df160_J3_checkIndex_8e157 : GoodIn wsJ0_checkIndex_df160 wsJ3_checkIndex_8e157 := goodIn_r _ [5] (by decide +kernel) (by decide +kernel)
set_option maxRecDepth 20000 in
theorem gJ0_checkIndex_df160_J3_checkIndex_8e157 : GoodIn wsJ0_checkIndex_df160 (va_wsS RJ0 1059 yJ3_checkIndex_8e157 wsJ3_checkIndex_8e157) := goodIn_app (goodIn_of _ (by decide +kernel)) ggJ0_checkIndex_df160_J3_checkIndex_8e157
theorem dJ0_checkIndex_df160_0 : decode cJ0_checkIndex_df160 0 = .ok (.iload_n 0, 1) := by decide +kernel
theorem dJ0_checkIndex_df160_1 : decode cJ0_checkIndex_df160 1 = .ok (.iload_n 1, 1) := by decide +kernel
theorem dJ0_checkIndex_df160_2 : decode cJ0_checkIndex_df160 2 = .ok (.getstatic 1053, 3) := by decide +kernel
theorem dJ0_checkIndex_df160_5 : decode cJ0_checkIndex_df160 5 = .ok (.invokestatic 1059, 3) := by decide +kernel
theorem dJ0_checkIndex_df160_8 : decode cJ0_checkIndex_df160 8 = .ok (.pop, 1) := by decide +kernel
theorem dJ0_checkIndex_df160_9 : decode cJ0_checkIndex_df160 9 = .ok (.return_, 1) := by decide +kernel
set_option maxRecDepth 20000 in
theorem ggJ1_charAt_3b067_J0_checkIndex_df160 : GoodIn wsJ1_charAt_3b067 wsJ0_checkIndex_df160 := goodIn_r _ [4, 5, 6, 7, 8, 9] (by decide +kernel) (by decide +kernel)
set_option maxRecDepth 20000 in
theorem gJ1_charAt_3b067_J0_checkIndex_df160 : GoodIn wsJ1_charAt_3b067 (va_wsS RJ1 9 yJ0_checkIndex_df160 wsJ0_checkIndex_df160) := goodIn_app (goodIn_of _ (by decide +kernel)) ggJ1_charAt_3b067_J0_checkIndex_df160
theorem dJ1_charAt_3b067_0 : decode cJ1_charAt_3b067 0 = .ok (.iload_n 1, 1) := by decide +kernel
theorem dJ1_charAt_3b067_1 : decode cJ1_charAt_3b067 1 = .ok (.aload_n 0, 1) := by decide +kernel
theorem dJ1_charAt_3b067_2 : decode cJ1_charAt_3b067 2 = .ok (.arraylength, 1) := by decide +kernel
theorem dJ1_charAt_3b067_3 : decode cJ1_charAt_3b067 3 = .ok (.invokestatic 9, 3) := by decide +kernel
theorem dJ1_charAt_3b067_6 : decode cJ1_charAt_3b067 6 = .ok (.aload_n 0, 1) := by decide +kernel
theorem dJ1_charAt_3b067_7 : decode cJ1_charAt_3b067 7 = .ok (.iload_n 1, 1) := by decide +kernel
theorem dJ1_charAt_3b067_8 : decode cJ1_charAt_3b067 8 = .ok (.baload, 1) := by decide +kernel
theorem dJ1_charAt_3b067_9 : decode cJ1_charAt_3b067 9 = .ok (.sipush 255, 3) := by decide +kernel
theorem dJ1_charAt_3b067_12 : decode cJ1_charAt_3b067 12 = .ok (.iand, 1) := by decide +kernel
theorem dJ1_charAt_3b067_13 : decode cJ1_charAt_3b067 13 = .ok (.i2c, 1) := by decide +kernel
theorem dJ1_charAt_3b067_14 : decode cJ1_charAt_3b067 14 = .ok (.ireturn, 1) := by decide +kernel
set_option maxRecDepth 20000 in
theorem ggJ2_getChar_3b067_J2_length_9d52b : GoodIn wsJ2_getChar_3b067 wsJ2_length_9d52b := goodIn_r _ [7] (by decide +kernel) (by decide +kernel)
set_option maxRecDepth 20000 in
theorem gJ2_getChar_3b067_J2_length_9d52b : GoodIn wsJ2_getChar_3b067 (va_wsS RJ2 48 yJ2_length_9d52b wsJ2_length_9d52b) := goodIn_app (goodIn_of _ (by decide +kernel)) ggJ2_getChar_3b067_J2_length_9d52b
theorem dJ2_getChar_3b067_0 : decode cJ2_getChar_3b067 0 = .ok (.getstatic 44, 3) := by decide +kernel
theorem dJ2_getChar_3b067_3 : decode cJ2_getChar_3b067 3 = .ok (.ifCond .ne 25, 3) := by decide +kernel
theorem dJ2_getChar_3b067_6 : decode cJ2_getChar_3b067 6 = .ok (.iload_n 1, 1) := by decide +kernel
theorem dJ2_getChar_3b067_7 : decode cJ2_getChar_3b067 7 = .ok (.ifCond .lt 11, 3) := by decide +kernel
theorem dJ2_getChar_3b067_10 : decode cJ2_getChar_3b067 10 = .ok (.iload_n 1, 1) := by decide +kernel
theorem dJ2_getChar_3b067_11 : decode cJ2_getChar_3b067 11 = .ok (.aload_n 0, 1) := by decide +kernel
theorem dJ2_getChar_3b067_12 : decode cJ2_getChar_3b067 12 = .ok (.invokestatic 48, 3) := by decide +kernel
theorem dJ2_getChar_3b067_15 : decode cJ2_getChar_3b067 15 = .ok (.if_icmp .lt 13, 3) := by decide +kernel
theorem dJ2_getChar_3b067_18 : decode cJ2_getChar_3b067 18 = .ok (.new 52, 3) := by decide +kernel
theorem dJ2_getChar_3b067_21 : decode cJ2_getChar_3b067 21 = .ok (.dup, 1) := by decide +kernel
theorem dJ2_getChar_3b067_22 : decode cJ2_getChar_3b067 22 = .ok (.ldc 54, 2) := by decide +kernel
theorem dJ2_getChar_3b067_24 : decode cJ2_getChar_3b067 24 = .ok (.invokespecial 56, 3) := by decide +kernel
theorem dJ2_getChar_3b067_27 : decode cJ2_getChar_3b067 27 = .ok (.athrow, 1) := by decide +kernel
theorem dJ2_getChar_3b067_28 : decode cJ2_getChar_3b067 28 = .ok (.iload_n 1, 1) := by decide +kernel
theorem dJ2_getChar_3b067_29 : decode cJ2_getChar_3b067 29 = .ok (.iconst 1, 1) := by decide +kernel
theorem dJ2_getChar_3b067_30 : decode cJ2_getChar_3b067 30 = .ok (.ishl, 1) := by decide +kernel
theorem dJ2_getChar_3b067_31 : decode cJ2_getChar_3b067 31 = .ok (.istore_n 1, 1) := by decide +kernel
theorem dJ2_getChar_3b067_32 : decode cJ2_getChar_3b067 32 = .ok (.aload_n 0, 1) := by decide +kernel
theorem dJ2_getChar_3b067_33 : decode cJ2_getChar_3b067 33 = .ok (.iload_n 1, 1) := by decide +kernel
theorem dJ2_getChar_3b067_34 : decode cJ2_getChar_3b067 34 = .ok (.iinc 1 1, 3) := by decide +kernel
theorem dJ2_getChar_3b067_37 : decode cJ2_getChar_3b067 37 = .ok (.baload, 1) := by decide +kernel
theorem dJ2_getChar_3b067_38 : decode cJ2_getChar_3b067 38 = .ok (.sipush 255, 3) := by decide +kernel
theorem dJ2_getChar_3b067_41 : decode cJ2_getChar_3b067 41 = .ok (.iand, 1) := by decide +kernel
theorem dJ2_getChar_3b067_42 : decode cJ2_getChar_3b067 42 = .ok (.getstatic 59, 3) := by decide +kernel
theorem dJ2_getChar_3b067_45 : decode cJ2_getChar_3b067 45 = .ok (.ishl, 1) := by decide +kernel
theorem dJ2_getChar_3b067_46 : decode cJ2_getChar_3b067 46 = .ok (.aload_n 0, 1) := by decide +kernel
theorem dJ2_getChar_3b067_47 : decode cJ2_getChar_3b067 47 = .ok (.iload_n 1, 1) := by decide +kernel
theorem dJ2_getChar_3b067_48 : decode cJ2_getChar_3b067 48 = .ok (.baload, 1) := by decide +kernel
theorem dJ2_getChar_3b067_49 : decode cJ2_getChar_3b067 49 = .ok (.sipush 255, 3) := by decide +kernel
theorem dJ2_getChar_3b067_52 : decode cJ2_getChar_3b067 52 = .ok (.iand, 1) := by decide +kernel
theorem dJ2_getChar_3b067_53 : decode cJ2_getChar_3b067 53 = .ok (.getstatic 63, 3) := by decide +kernel
theorem dJ2_getChar_3b067_56 : decode cJ2_getChar_3b067 56 = .ok (.ishl, 1) := by decide +kernel
theorem dJ2_getChar_3b067_57 : decode cJ2_getChar_3b067 57 = .ok (.ior, 1) := by decide +kernel
theorem dJ2_getChar_3b067_58 : decode cJ2_getChar_3b067 58 = .ok (.i2c, 1) := by decide +kernel
theorem dJ2_getChar_3b067_59 : decode cJ2_getChar_3b067 59 = .ok (.ireturn, 1) := by decide +kernel
theorem dJ2_length_9d52b_0 : decode cJ2_length_9d52b 0 = .ok (.aload_n 0, 1) := by decide +kernel
theorem dJ2_length_9d52b_1 : decode cJ2_length_9d52b 1 = .ok (.arraylength, 1) := by decide +kernel
theorem dJ2_length_9d52b_2 : decode cJ2_length_9d52b 2 = .ok (.iconst 1, 1) := by decide +kernel
theorem dJ2_length_9d52b_3 : decode cJ2_length_9d52b 3 = .ok (.ishr, 1) := by decide +kernel
theorem dJ2_length_9d52b_4 : decode cJ2_length_9d52b 4 = .ok (.ireturn, 1) := by decide +kernel
set_option maxRecDepth 20000 in
theorem ggJ2_charAt_3b067_J2_checkIndex_2214a : GoodIn wsJ2_charAt_3b067 wsJ2_checkIndex_2214a := goodIn_r _ [4, 5, 6, 3, 7, 8, 9, 10, 11, 12, 13, 14, 15, 16] (by decide +kernel) (by decide +kernel)
set_option maxRecDepth 20000 in
theorem gJ2_charAt_3b067_J2_checkIndex_2214a : GoodIn wsJ2_charAt_3b067 (va_wsS RJ2 67 yJ2_checkIndex_2214a wsJ2_checkIndex_2214a) := goodIn_app (goodIn_of _ (by decide +kernel)) ggJ2_charAt_3b067_J2_checkIndex_2214a
set_option maxRecDepth 20000 in
theorem ggJ2_charAt_3b067_J2_getChar_3b067 : GoodIn wsJ2_charAt_3b067 wsJ2_getChar_3b067 := goodIn_r _ [19, 20, 21, 22, 5, 6, 3, 7] (by decide +kernel) (by decide +kernel)
set_option maxRecDepth 20000 in
theorem gJ2_charAt_3b067_J2_getChar_3b067 : GoodIn wsJ2_charAt_3b067 (va_wsS RJ2 71 yJ2_getChar_3b067 wsJ2_getChar_3b067) := goodIn_app (goodIn_of _ (by decide +kernel)) ggJ2_charAt_3b067_J2_getChar_3b067
theorem dJ2_charAt_3b067_0 : decode cJ2_charAt_3b067 0 = .ok (.iload_n 1, 1) := by decide +kernel
theorem dJ2_charAt_3b067_1 : decode cJ2_charAt_3b067 1 = .ok (.aload_n 0, 1) := by decide +kernel
theorem dJ2_charAt_3b067_2 : decode cJ2_charAt_3b067 2 = .ok (.invokestatic 67, 3) := by decide +kernel
theorem dJ2_charAt_3b067_5 : decode cJ2_charAt_3b067 5 = .ok (.aload_n 0, 1) := by decide +kernel
theorem dJ2_charAt_3b067_6 : decode cJ2_charAt_3b067 6 = .ok (.iload_n 1, 1) := by decide +kernel
theorem dJ2_charAt_3b067_7 : decode cJ2_charAt_3b067 7 = .ok (.invokestatic 71, 3) := by decide +kernel
theorem dJ2_charAt_3b067_10 : decode cJ2_charAt_3b067 10 = .ok (.ireturn, 1) := by decide +kernel
set_option maxRecDepth 20000 in
theorem ggJ2_checkIndex_2214a_J2_length_9d52b : GoodIn wsJ2_checkIndex_2214a wsJ2_length_9d52b := goodIn_r _ [4] (by decide +kernel) (by decide +kernel)
set_option maxRecDepth 20000 in
theorem gJ2_checkIndex_2214a_J2_length_9d52b : GoodIn wsJ2_checkIndex_2214a (va_wsS RJ2 48 yJ2_length_9d52b wsJ2_length_9d52b) := goodIn_app (goodIn_of _ (by decide +kernel)) ggJ2_checkIndex_2214a_J2_length_9d52b
set_option maxRecDepth 20000 in
theorem ggJ2_checkIndex_2214a_J0_checkIndex_df160 : GoodIn wsJ2_checkIndex_2214a wsJ0_checkIndex_df160 := goodIn_r _ [8, 9, 10, 11, 12, 13] (by decide +kernel) (by decide +kernel)
set_option maxRecDepth 20000 in
theorem gJ2_checkIndex_2214a_J0_checkIndex_df160 : GoodIn wsJ2_checkIndex_2214a (va_wsS RJ2 414 yJ0_checkIndex_df160 wsJ0_checkIndex_df160) := goodIn_app (goodIn_of _ (by decide +kernel)) ggJ2_checkIndex_2214a_J0_checkIndex_df160
theorem dJ2_checkIndex_2214a_0 : decode cJ2_checkIndex_2214a 0 = .ok (.iload_n 0, 1) := by decide +kernel
theorem dJ2_checkIndex_2214a_1 : decode cJ2_checkIndex_2214a 1 = .ok (.aload_n 1, 1) := by decide +kernel
theorem dJ2_checkIndex_2214a_2 : decode cJ2_checkIndex_2214a 2 = .ok (.invokestatic 48, 3) := by decide +kernel
theorem dJ2_checkIndex_2214a_5 : decode cJ2_checkIndex_2214a 5 = .ok (.invokestatic 414, 3) := by decide +kernel
theorem dJ2_checkIndex_2214a_8 : decode cJ2_checkIndex_2214a 8 = .ok (.return_, 1) := by decide +kernel
theorem dJ3_checkIndex_8e157_0 : decode cJ3_checkIndex_8e157 0 = .ok (.iload_n 0, 1) := by decide +kernel
theorem dJ3_checkIndex_8e157_1 : decode cJ3_checkIndex_8e157 1 = .ok (.ifCond .lt 8, 3) := by decide +kernel
theorem dJ3_checkIndex_8e157_4 : decode cJ3_checkIndex_8e157 4 = .ok (.iload_n 0, 1) := by decide +kernel
theorem dJ3_checkIndex_8e157_5 : decode cJ3_checkIndex_8e157 5 = .ok (.iload_n 1, 1) := by decide +kernel
theorem dJ3_checkIndex_8e157_6 : decode cJ3_checkIndex_8e157 6 = .ok (.if_icmp .lt 10, 3) := by decide +kernel
theorem dJ3_checkIndex_8e157_9 : decode cJ3_checkIndex_8e157 9 = .ok (.aload_n 2, 1) := by decide +kernel
theorem dJ3_checkIndex_8e157_10 : decode cJ3_checkIndex_8e157 10 = .ok (.iload_n 0, 1) := by decide +kernel
theorem dJ3_checkIndex_8e157_11 : decode cJ3_checkIndex_8e157 11 = .ok (.iload_n 1, 1) := by decide +kernel
theorem dJ3_checkIndex_8e157_12 : decode cJ3_checkIndex_8e157 12 = .ok (.invokestatic 95, 3) := by decide +kernel
theorem dJ3_checkIndex_8e157_15 : decode cJ3_checkIndex_8e157 15 = .ok (.athrow, 1) := by decide +kernel
theorem dJ3_checkIndex_8e157_16 : decode cJ3_checkIndex_8e157 16 = .ok (.iload_n 0, 1) := by decide +kernel
theorem dJ3_checkIndex_8e157_17 : decode cJ3_checkIndex_8e157 17 = .ok (.ireturn, 1) := by decide +kernel
