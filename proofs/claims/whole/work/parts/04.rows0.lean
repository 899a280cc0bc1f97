set_option maxRecDepth 20000 in
theorem ggX0_init_X1_init : GoodIn wsX0_init wsX1_init := goodIn_r _ [12, 13, 2, 3, 9, 14, 15, 16, 17, 18, 19, 20, 21, 22, 23, 24, 25, 26] (by decide +kernel) (by decide +kernel)
set_option maxRecDepth 20000 in
theorem gX0_init_X1_init_n11 : GoodIn wsX0_init (wsX1_init) := ggX0_init_X1_init
theorem dX0_init_0 : decode cX0_init 0 = .ok (.aload_n 0, 1) := by decide +kernel
theorem dX0_init_1 : decode cX0_init 1 = .ok (.invokespecial 3, 3) := by decide +kernel
theorem dX0_init_4 : decode cX0_init 4 = .ok (.aload_n 0, 1) := by decide +kernel
theorem dX0_init_5 : decode cX0_init 5 = .ok (.new 9, 3) := by decide +kernel
theorem dX0_init_8 : decode cX0_init 8 = .ok (.dup, 1) := by decide +kernel
theorem dX0_init_9 : decode cX0_init 9 = .ok (.invokespecial 11, 3) := by decide +kernel
theorem dX0_init_12 : decode cX0_init 12 = .ok (.putfield 12, 3) := by decide +kernel
theorem dX0_init_15 : decode cX0_init 15 = .ok (.aload_n 0, 1) := by decide +kernel
theorem dX0_init_16 : decode cX0_init 16 = .ok (.iconst (-1), 1) := by decide +kernel
theorem dX0_init_17 : decode cX0_init 17 = .ok (.putfield 18, 3) := by decide +kernel
theorem dX0_init_20 : decode cX0_init 20 = .ok (.aload_n 0, 1) := by decide +kernel
theorem dX0_init_21 : decode cX0_init 21 = .ok (.sipush 400, 3) := by decide +kernel
theorem dX0_init_24 : decode cX0_init 24 = .ok (.newarray .int, 2) := by decide +kernel
theorem dX0_init_26 : decode cX0_init 26 = .ok (.putfield 22, 3) := by decide +kernel
theorem dX0_init_29 : decode cX0_init 29 = .ok (.return_, 1) := by decide +kernel
set_option maxRecDepth 20000 in
theorem ggX0_begin_X1_begin : GoodIn wsX0_begin wsX1_begin := goodIn_r _ [8, 9, 10, 11, 12, 13, 7, 14, 15, 16, 17, 18, 19, 20, 21, 22, 23, 28, 29, 30, 31, 32, 33, 34, 35] (by decide +kernel) (by decide +kernel)
set_option maxRecDepth 20000 in
theorem gX0_begin_X1_begin : GoodIn wsX0_begin (wsV RX0 32 RX1 yX1_begin wsX1_begin) := goodIn_app (goodIn_of _ (by decide +kernel)) ggX0_begin_X1_begin
theorem dX0_begin_0 : decode cX0_begin 0 = .ok (.aload_n 0, 1) := by decide +kernel
theorem dX0_begin_1 : decode cX0_begin 1 = .ok (.getfield 12, 3) := by decide +kernel
theorem dX0_begin_4 : decode cX0_begin 4 = .ok (.aload_n 1, 1) := by decide +kernel
theorem dX0_begin_5 : decode cX0_begin 5 = .ok (.getfield 26, 3) := by decide +kernel
theorem dX0_begin_8 : decode cX0_begin 8 = .ok (.aload_n 1, 1) := by decide +kernel
theorem dX0_begin_9 : decode cX0_begin 9 = .ok (.getfield 29, 3) := by decide +kernel
theorem dX0_begin_12 : decode cX0_begin 12 = .ok (.invokevirtual 32, 3) := by decide +kernel
theorem dX0_begin_15 : decode cX0_begin 15 = .ok (.aload_n 0, 1) := by decide +kernel
theorem dX0_begin_16 : decode cX0_begin 16 = .ok (.iconst (-1), 1) := by decide +kernel
theorem dX0_begin_17 : decode cX0_begin 17 = .ok (.putfield 18, 3) := by decide +kernel
theorem dX0_begin_20 : decode cX0_begin 20 = .ok (.aload_n 0, 1) := by decide +kernel
theorem dX0_begin_21 : decode cX0_begin 21 = .ok (.iconst 0, 1) := by decide +kernel
theorem dX0_begin_22 : decode cX0_begin 22 = .ok (.putfield 36, 3) := by decide +kernel
theorem dX0_begin_25 : decode cX0_begin 25 = .ok (.return_, 1) := by decide +kernel
set_option maxRecDepth 20000 in
theorem ggX0_readCodes_X6_step : GoodIn wsX0_readCodes wsX6_step := goodIn_r _ [5, 6, 7, 8, 9, 10, 11, 12, 13, 14, 15, 4, 16, 17, 18, 19, 20, 21, 22, 23, 24, 25, 26, 27, 28, 29, 30, 104, 105, 106, 107, 108] (by decide +kernel) (by decide +kernel)
set_option maxRecDepth 20000 in
theorem gX0_readCodes_X6_step : GoodIn wsX0_readCodes (wsV RX0 39 RX6 yX6_step wsX6_step) := goodIn_app (goodIn_of _ (by decide +kernel)) ggX0_readCodes_X6_step
set_option maxRecDepth 20000 in
theorem ggX0_readCodes_X6_number : GoodIn wsX0_readCodes wsX6_number := goodIn_r _ [34, 7, 6, 9, 11, 12, 13, 104, 105, 106, 107, 108] (by decide +kernel) (by decide +kernel)
set_option maxRecDepth 20000 in
theorem gX0_readCodes_X6_number : GoodIn wsX0_readCodes (wsV RX0 47 RX6 yX6_number wsX6_number) := goodIn_app (goodIn_of _ (by decide +kernel)) ggX0_readCodes_X6_number
set_option maxRecDepth 20000 in
theorem ggX0_readCodes_X0_takeCode : GoodIn wsX0_readCodes wsX0_takeCode := goodIn_r _ [39, 40, 41, 42, 43, 44, 45, 46, 47, 48, 49, 50, 51, 52, 53, 54, 55, 56, 57, 58, 59, 60, 61, 62, 63, 38, 64, 65, 66, 67, 68, 69, 70, 11, 12, 13, 71, 72, 73, 74, 75, 76, 77, 78, 79, 80, 81, 82, 83, 84, 85, 86, 87, 88, 89, 90, 91, 92, 93, 94, 95, 96, 97, 98, 99, 100, 101, 102, 103, 109, 110, 111, 112, 113, 114, 115, 116, 117, 118, 119, 120] (by decide +kernel) (by decide +kernel)
set_option maxRecDepth 20000 in
theorem gX0_readCodes_X0_takeCode : GoodIn wsX0_readCodes (wsV RX0 51 RX0 yX0_takeCode wsX0_takeCode) := goodIn_app (goodIn_of _ (by decide +kernel)) ggX0_readCodes_X0_takeCode
theorem dX0_readCodes_0 : decode cX0_readCodes 0 = .ok (.aload_n 1, 1) := by decide +kernel
theorem dX0_readCodes_1 : decode cX0_readCodes 1 = .ok (.invokevirtual 39, 3) := by decide +kernel
theorem dX0_readCodes_4 : decode cX0_readCodes 4 = .ok (.iconst 0, 1) := by decide +kernel
theorem dX0_readCodes_5 : decode cX0_readCodes 5 = .ok (.istore_n 2, 1) := by decide +kernel
theorem dX0_readCodes_6 : decode cX0_readCodes 6 = .ok (.iload_n 2, 1) := by decide +kernel
theorem dX0_readCodes_7 : decode cX0_readCodes 7 = .ok (.sipush 800, 3) := by decide +kernel
theorem dX0_readCodes_10 : decode cX0_readCodes 10 = .ok (.if_icmp .ge 41, 3) := by decide +kernel
theorem dX0_readCodes_13 : decode cX0_readCodes 13 = .ok (.aload_n 1, 1) := by decide +kernel
theorem dX0_readCodes_14 : decode cX0_readCodes 14 = .ok (.getfield 44, 3) := by decide +kernel
theorem dX0_readCodes_17 : decode cX0_readCodes 17 = .ok (.ifCond .eq 34, 3) := by decide +kernel
theorem dX0_readCodes_20 : decode cX0_readCodes 20 = .ok (.aload_n 1, 1) := by decide +kernel
theorem dX0_readCodes_21 : decode cX0_readCodes 21 = .ok (.getfield 44, 3) := by decide +kernel
theorem dX0_readCodes_24 : decode cX0_readCodes 24 = .ok (.iconst 2, 1) := by decide +kernel
theorem dX0_readCodes_25 : decode cX0_readCodes 25 = .ok (.if_icmp .ne 14, 3) := by decide +kernel
theorem dX0_readCodes_28 : decode cX0_readCodes 28 = .ok (.aload_n 0, 1) := by decide +kernel
theorem dX0_readCodes_29 : decode cX0_readCodes 29 = .ok (.aload_n 1, 1) := by decide +kernel
theorem dX0_readCodes_30 : decode cX0_readCodes 30 = .ok (.invokevirtual 47, 3) := by decide +kernel
theorem dX0_readCodes_33 : decode cX0_readCodes 33 = .ok (.invokevirtual 51, 3) := by decide +kernel
theorem dX0_readCodes_36 : decode cX0_readCodes 36 = .ok (.ifCond .ne 5, 3) := by decide +kernel
theorem dX0_readCodes_39 : decode cX0_readCodes 39 = .ok (.iconst 0, 1) := by decide +kernel
theorem dX0_readCodes_40 : decode cX0_readCodes 40 = .ok (.ireturn, 1) := by decide +kernel
theorem dX0_readCodes_41 : decode cX0_readCodes 41 = .ok (.aload_n 1, 1) := by decide +kernel
theorem dX0_readCodes_42 : decode cX0_readCodes 42 = .ok (.invokevirtual 39, 3) := by decide +kernel
theorem dX0_readCodes_45 : decode cX0_readCodes 45 = .ok (.iinc 2 1, 3) := by decide +kernel
theorem dX0_readCodes_48 : decode cX0_readCodes 48 = .ok (.goto (-42), 3) := by decide +kernel
theorem dX0_readCodes_51 : decode cX0_readCodes 51 = .ok (.aload_n 1, 1) := by decide +kernel
theorem dX0_readCodes_52 : decode cX0_readCodes 52 = .ok (.getfield 44, 3) := by decide +kernel
theorem dX0_readCodes_55 : decode cX0_readCodes 55 = .ok (.ifCond .ne 7, 3) := by decide +kernel
theorem dX0_readCodes_58 : decode cX0_readCodes 58 = .ok (.iconst 1, 1) := by decide +kernel
theorem dX0_readCodes_59 : decode cX0_readCodes 59 = .ok (.goto 4, 3) := by decide +kernel
theorem dX0_readCodes_62 : decode cX0_readCodes 62 = .ok (.iconst 0, 1) := by decide +kernel
theorem dX0_readCodes_63 : decode cX0_readCodes 63 = .ok (.ireturn, 1) := by decide +kernel
set_option maxRecDepth 20000 in
theorem ggX0_takeAll_X7_at : GoodIn wsX0_takeAll wsX7_at := goodIn_r _ [3] (by decide +kernel) (by decide +kernel)
set_option maxRecDepth 20000 in
theorem gX0_takeAll_X7_at_n55 : GoodIn wsX0_takeAll (wsX7_at) := ggX0_takeAll_X7_at
set_option maxRecDepth 20000 in
theorem ggX0_takeAll_X0_takeCode : GoodIn wsX0_takeAll wsX0_takeCode := goodIn_r _ [8, 9, 10, 11, 12, 13, 14, 15, 16, 17, 18, 19, 20, 21, 22, 23, 24, 25, 26, 27, 28, 29, 30, 31, 32, 7, 33, 34, 35, 36, 37, 38, 39, 1, 2, 3, 40, 41, 42, 43, 44, 45, 46, 47, 48, 49, 50, 51, 52, 53, 54, 55, 56, 57, 58, 59, 60, 61, 62, 63, 64, 65, 66, 67, 68, 69, 70, 71, 72, 73, 74, 75, 76, 77, 78, 79, 80, 81, 82, 83, 84] (by decide +kernel) (by decide +kernel)
set_option maxRecDepth 20000 in
theorem gX0_takeAll_X0_takeCode : GoodIn wsX0_takeAll (wsV RX0 51 RX0 yX0_takeCode wsX0_takeCode) := goodIn_app (goodIn_of _ (by decide +kernel)) ggX0_takeAll_X0_takeCode
theorem dX0_takeAll_0 : decode cX0_takeAll 0 = .ok (.iconst 0, 1) := by decide +kernel
theorem dX0_takeAll_1 : decode cX0_takeAll 1 = .ok (.istore_n 3, 1) := by decide +kernel
theorem dX0_takeAll_2 : decode cX0_takeAll 2 = .ok (.iload_n 3, 1) := by decide +kernel
theorem dX0_takeAll_3 : decode cX0_takeAll 3 = .ok (.iload_n 2, 1) := by decide +kernel
theorem dX0_takeAll_4 : decode cX0_takeAll 4 = .ok (.if_icmp .ge 23, 3) := by decide +kernel
theorem dX0_takeAll_7 : decode cX0_takeAll 7 = .ok (.aload_n 0, 1) := by decide +kernel
theorem dX0_takeAll_8 : decode cX0_takeAll 8 = .ok (.aload_n 1, 1) := by decide +kernel
theorem dX0_takeAll_9 : decode cX0_takeAll 9 = .ok (.iload_n 3, 1) := by decide +kernel
theorem dX0_takeAll_10 : decode cX0_takeAll 10 = .ok (.invokestatic 55, 3) := by decide +kernel
theorem dX0_takeAll_13 : decode cX0_takeAll 13 = .ok (.invokevirtual 51, 3) := by decide +kernel
theorem dX0_takeAll_16 : decode cX0_takeAll 16 = .ok (.ifCond .ne 5, 3) := by decide +kernel
theorem dX0_takeAll_19 : decode cX0_takeAll 19 = .ok (.iconst 0, 1) := by decide +kernel
theorem dX0_takeAll_20 : decode cX0_takeAll 20 = .ok (.ireturn, 1) := by decide +kernel
theorem dX0_takeAll_21 : decode cX0_takeAll 21 = .ok (.iinc 3 1, 3) := by decide +kernel
theorem dX0_takeAll_24 : decode cX0_takeAll 24 = .ok (.goto (-22), 3) := by decide +kernel
theorem dX0_takeAll_27 : decode cX0_takeAll 27 = .ok (.iconst 1, 1) := by decide +kernel
theorem dX0_takeAll_28 : decode cX0_takeAll 28 = .ok (.ireturn, 1) := by decide +kernel
set_option maxRecDepth 20000 in
theorem ggX0_takeCode_X1_keepFirstCodes : GoodIn wsX0_takeCode wsX1_keepFirstCodes := goodIn_r _ [7, 8, 9, 10, 11, 12, 6, 13, 14, 15, 16, 17, 73, 74, 75, 76, 77, 78, 79, 80] (by decide +kernel) (by decide +kernel)
set_option maxRecDepth 20000 in
theorem gX0_takeCode_X1_keepFirstCodes : GoodIn wsX0_takeCode (wsV RX0 59 RX1 yX1_keepFirstCodes wsX1_keepFirstCodes) := goodIn_app (goodIn_of _ (by decide +kernel)) ggX0_takeCode_X1_keepFirstCodes
set_option maxRecDepth 20000 in
theorem ggX0_takeCode_X1_hasCode : GoodIn wsX0_takeCode wsX1_hasCode := goodIn_r _ [21, 9, 73, 74, 75, 76, 77, 78, 79, 80] (by decide +kernel) (by decide +kernel)
set_option maxRecDepth 20000 in
theorem gX0_takeCode_X1_hasCode : GoodIn wsX0_takeCode (wsV RX0 62 RX1 yX1_hasCode wsX1_hasCode) := goodIn_app (goodIn_of _ (by decide +kernel)) ggX0_takeCode_X1_hasCode
set_option maxRecDepth 20000 in
theorem ggX0_takeCode_X0_takePhrase : GoodIn wsX0_takeCode wsX0_takePhrase := goodIn_r _ [26, 1, 27, 2, 28, 29, 30, 31, 6, 32, 16, 33, 34, 35, 36, 37, 38, 39, 14, 15, 40, 41, 42, 43, 25, 44, 45, 46, 47, 48, 17, 8, 49, 50, 51, 52, 53, 9, 54, 55, 56, 57, 58, 59, 60, 61, 62, 10, 11, 12, 13, 63, 64, 65, 66, 67, 68, 69, 70, 71, 72, 73, 74, 75, 76, 77, 78, 79, 80] (by decide +kernel) (by decide +kernel)
set_option maxRecDepth 20000 in
theorem gX0_takeCode_X0_takePhrase : GoodIn wsX0_takeCode (wsV RX0 65 RX0 yX0_takePhrase wsX0_takePhrase) := goodIn_app (goodIn_of _ (by decide +kernel)) ggX0_takeCode_X0_takePhrase
set_option maxRecDepth 20000 in
theorem ggX0_takeCode_X1_hasNoRoom : GoodIn wsX0_takeCode wsX1_hasNoRoom := goodIn_r _ [53, 9, 54, 55, 56, 6, 57, 58, 73, 74, 75, 76, 77, 78, 79, 80] (by decide +kernel) (by decide +kernel)
set_option maxRecDepth 20000 in
theorem gX0_takeCode_X1_hasNoRoom : GoodIn wsX0_takeCode (wsV RX0 70 RX1 yX1_hasNoRoom wsX1_hasNoRoom) := goodIn_app (goodIn_of _ (by decide +kernel)) ggX0_takeCode_X1_hasNoRoom
theorem dX0_takeCode_0 : decode cX0_takeCode 0 = .ok (.iload_n 1, 1) := by decide +kernel
theorem dX0_takeCode_1 : decode cX0_takeCode 1 = .ok (.aload_n 0, 1) := by decide +kernel
theorem dX0_takeCode_2 : decode cX0_takeCode 2 = .ok (.getfield 12, 3) := by decide +kernel
theorem dX0_takeCode_5 : decode cX0_takeCode 5 = .ok (.getfield 26, 3) := by decide +kernel
theorem dX0_takeCode_8 : decode cX0_takeCode 8 = .ok (.if_icmp .ne 17, 3) := by decide +kernel
theorem dX0_takeCode_11 : decode cX0_takeCode 11 = .ok (.aload_n 0, 1) := by decide +kernel
theorem dX0_takeCode_12 : decode cX0_takeCode 12 = .ok (.getfield 12, 3) := by decide +kernel
theorem dX0_takeCode_15 : decode cX0_takeCode 15 = .ok (.invokevirtual 59, 3) := by decide +kernel
theorem dX0_takeCode_18 : decode cX0_takeCode 18 = .ok (.aload_n 0, 1) := by decide +kernel
theorem dX0_takeCode_19 : decode cX0_takeCode 19 = .ok (.iconst (-1), 1) := by decide +kernel
theorem dX0_takeCode_20 : decode cX0_takeCode 20 = .ok (.putfield 18, 3) := by decide +kernel
theorem dX0_takeCode_23 : decode cX0_takeCode 23 = .ok (.iconst 1, 1) := by decide +kernel
theorem dX0_takeCode_24 : decode cX0_takeCode 24 = .ok (.ireturn, 1) := by decide +kernel
theorem dX0_takeCode_25 : decode cX0_takeCode 25 = .ok (.aload_n 0, 1) := by decide +kernel
theorem dX0_takeCode_26 : decode cX0_takeCode 26 = .ok (.getfield 12, 3) := by decide +kernel
theorem dX0_takeCode_29 : decode cX0_takeCode 29 = .ok (.iload_n 1, 1) := by decide +kernel
theorem dX0_takeCode_30 : decode cX0_takeCode 30 = .ok (.invokevirtual 62, 3) := by decide +kernel
theorem dX0_takeCode_33 : decode cX0_takeCode 33 = .ok (.ifCond .eq 11, 3) := by decide +kernel
theorem dX0_takeCode_36 : decode cX0_takeCode 36 = .ok (.aload_n 0, 1) := by decide +kernel
theorem dX0_takeCode_37 : decode cX0_takeCode 37 = .ok (.iload_n 1, 1) := by decide +kernel
theorem dX0_takeCode_38 : decode cX0_takeCode 38 = .ok (.iload_n 1, 1) := by decide +kernel
theorem dX0_takeCode_39 : decode cX0_takeCode 39 = .ok (.iconst 0, 1) := by decide +kernel
theorem dX0_takeCode_40 : decode cX0_takeCode 40 = .ok (.invokevirtual 65, 3) := by decide +kernel
theorem dX0_takeCode_43 : decode cX0_takeCode 43 = .ok (.ireturn, 1) := by decide +kernel
theorem dX0_takeCode_44 : decode cX0_takeCode 44 = .ok (.iload_n 1, 1) := by decide +kernel
theorem dX0_takeCode_45 : decode cX0_takeCode 45 = .ok (.aload_n 0, 1) := by decide +kernel
theorem dX0_takeCode_46 : decode cX0_takeCode 46 = .ok (.getfield 12, 3) := by decide +kernel
theorem dX0_takeCode_49 : decode cX0_takeCode 49 = .ok (.getfield 69, 3) := by decide +kernel
theorem dX0_takeCode_52 : decode cX0_takeCode 52 = .ok (.if_icmp .ne 25, 3) := by decide +kernel
theorem dX0_takeCode_55 : decode cX0_takeCode 55 = .ok (.aload_n 0, 1) := by decide +kernel
theorem dX0_takeCode_56 : decode cX0_takeCode 56 = .ok (.getfield 18, 3) := by decide +kernel
theorem dX0_takeCode_59 : decode cX0_takeCode 59 = .ok (.iconst (-1), 1) := by decide +kernel
theorem dX0_takeCode_60 : decode cX0_takeCode 60 = .ok (.if_icmp .eq 17, 3) := by decide +kernel
theorem dX0_takeCode_63 : decode cX0_takeCode 63 = .ok (.aload_n 0, 1) := by decide +kernel
theorem dX0_takeCode_64 : decode cX0_takeCode 64 = .ok (.getfield 12, 3) := by decide +kernel
theorem dX0_takeCode_67 : decode cX0_takeCode 67 = .ok (.invokevirtual 70, 3) := by decide +kernel
theorem dX0_takeCode_70 : decode cX0_takeCode 70 = .ok (.ifCond .ne 7, 3) := by decide +kernel
theorem dX0_takeCode_73 : decode cX0_takeCode 73 = .ok (.iconst 1, 1) := by decide +kernel
theorem dX0_takeCode_74 : decode cX0_takeCode 74 = .ok (.goto 4, 3) := by decide +kernel
theorem dX0_takeCode_77 : decode cX0_takeCode 77 = .ok (.iconst 0, 1) := by decide +kernel
theorem dX0_takeCode_78 : decode cX0_takeCode 78 = .ok (.istore_n 2, 1) := by decide +kernel
theorem dX0_takeCode_79 : decode cX0_takeCode 79 = .ok (.iload_n 2, 1) := by decide +kernel
theorem dX0_takeCode_80 : decode cX0_takeCode 80 = .ok (.ifCond .eq 20, 3) := by decide +kernel
theorem dX0_takeCode_83 : decode cX0_takeCode 83 = .ok (.aload_n 0, 1) := by decide +kernel
theorem dX0_takeCode_84 : decode cX0_takeCode 84 = .ok (.iconst (-1), 1) := by decide +kernel
theorem dX0_takeCode_85 : decode cX0_takeCode 85 = .ok (.aload_n 0, 1) := by decide +kernel
theorem dX0_takeCode_86 : decode cX0_takeCode 86 = .ok (.getfield 18, 3) := by decide +kernel
theorem dX0_takeCode_89 : decode cX0_takeCode 89 = .ok (.iconst 1, 1) := by decide +kernel
theorem dX0_takeCode_90 : decode cX0_takeCode 90 = .ok (.invokevirtual 65, 3) := by decide +kernel
theorem dX0_takeCode_93 : decode cX0_takeCode 93 = .ok (.ifCond .eq 7, 3) := by decide +kernel
theorem dX0_takeCode_96 : decode cX0_takeCode 96 = .ok (.iconst 1, 1) := by decide +kernel
theorem dX0_takeCode_97 : decode cX0_takeCode 97 = .ok (.goto 4, 3) := by decide +kernel
theorem dX0_takeCode_100 : decode cX0_takeCode 100 = .ok (.iconst 0, 1) := by decide +kernel
theorem dX0_takeCode_101 : decode cX0_takeCode 101 = .ok (.ireturn, 1) := by decide +kernel
set_option maxRecDepth 20000 in
theorem ggX0_takePhrase_X1_lengthOf : GoodIn wsX0_takePhrase wsX1_lengthOf := goodIn_r _ [9, 10, 11, 12, 13, 61, 62, 63, 64, 65, 66, 67, 68] (by decide +kernel) (by decide +kernel)
set_option maxRecDepth 20000 in
theorem gX0_takePhrase_X1_lengthOf : GoodIn wsX0_takePhrase (wsV RX0 74 RX1 yX1_lengthOf wsX1_lengthOf) := goodIn_app (goodIn_of _ (by decide +kernel)) ggX0_takePhrase_X1_lengthOf
set_option maxRecDepth 20000 in
theorem ggX0_takePhrase_X1_symbolOf : GoodIn wsX0_takePhrase wsX1_symbolOf := goodIn_r _ [17, 18, 19, 20, 6, 7, 8, 9, 10, 11, 12, 13, 61, 62, 63, 64, 65, 66, 67, 68] (by decide +kernel) (by decide +kernel)
set_option maxRecDepth 20000 in
theorem gX0_takePhrase_X1_symbolOf : GoodIn wsX0_takePhrase (wsV RX0 78 RX1 yX1_symbolOf wsX1_symbolOf) := goodIn_app (goodIn_of _ (by decide +kernel)) ggX0_takePhrase_X1_symbolOf
set_option maxRecDepth 20000 in
theorem ggX0_takePhrase_X0_learn : GoodIn wsX0_takePhrase wsX0_learn := goodIn_r _ [25, 3, 1, 26, 27, 28, 8, 29, 30, 31, 19, 32, 11, 12, 13, 33, 34, 35, 36, 37, 38, 39, 40, 41, 42, 43, 44, 45, 46, 20, 6, 7, 9, 10, 47, 48, 49, 50, 18, 51, 52, 57, 58, 59, 60, 61, 62, 63, 64, 65, 66, 67, 68] (by decide +kernel) (by decide +kernel)
set_option maxRecDepth 20000 in
theorem gX0_takePhrase_X0_learn : GoodIn wsX0_takePhrase (wsV RX0 82 RX0 yX0_learn wsX0_learn) := goodIn_app (goodIn_of _ (by decide +kernel)) ggX0_takePhrase_X0_learn
set_option maxRecDepth 20000 in
theorem ggX0_takePhrase_X1_spell : GoodIn wsX0_takePhrase wsX1_spell := goodIn_r _ [56, 19, 18, 20, 6, 7, 8, 9, 10, 11, 12, 13, 51, 52, 61, 62, 63, 64, 65, 66, 67, 68] (by decide +kernel) (by decide +kernel)
set_option maxRecDepth 20000 in
theorem gX0_takePhrase_X1_spell : GoodIn wsX0_takePhrase (wsV RX0 85 RX1 yX1_spell wsX1_spell) := goodIn_app (goodIn_of _ (by decide +kernel)) ggX0_takePhrase_X1_spell
theorem dX0_takePhrase_0 : decode cX0_takePhrase 0 = .ok (.aload_n 0, 1) := by decide +kernel
theorem dX0_takePhrase_1 : decode cX0_takePhrase 1 = .ok (.getfield 12, 3) := by decide +kernel
theorem dX0_takePhrase_4 : decode cX0_takePhrase 4 = .ok (.iload_n 2, 1) := by decide +kernel
theorem dX0_takePhrase_5 : decode cX0_takePhrase 5 = .ok (.invokevirtual 74, 3) := by decide +kernel
theorem dX0_takePhrase_8 : decode cX0_takePhrase 8 = .ok (.iload_n 3, 1) := by decide +kernel
theorem dX0_takePhrase_9 : decode cX0_takePhrase 9 = .ok (.iadd, 1) := by decide +kernel
theorem dX0_takePhrase_10 : decode cX0_takePhrase 10 = .ok (.istore 4, 2) := by decide +kernel
theorem dX0_takePhrase_12 : decode cX0_takePhrase 12 = .ok (.aload_n 0, 1) := by decide +kernel
theorem dX0_takePhrase_13 : decode cX0_takePhrase 13 = .ok (.getfield 36, 3) := by decide +kernel
theorem dX0_takePhrase_16 : decode cX0_takePhrase 16 = .ok (.iload 4, 2) := by decide +kernel
theorem dX0_takePhrase_18 : decode cX0_takePhrase 18 = .ok (.iadd, 1) := by decide +kernel
theorem dX0_takePhrase_19 : decode cX0_takePhrase 19 = .ok (.sipush 400, 3) := by decide +kernel
theorem dX0_takePhrase_22 : decode cX0_takePhrase 22 = .ok (.if_icmp .le 5, 3) := by decide +kernel
theorem dX0_takePhrase_25 : decode cX0_takePhrase 25 = .ok (.iconst 0, 1) := by decide +kernel
theorem dX0_takePhrase_26 : decode cX0_takePhrase 26 = .ok (.ireturn, 1) := by decide +kernel
theorem dX0_takePhrase_27 : decode cX0_takePhrase 27 = .ok (.aload_n 0, 1) := by decide +kernel
theorem dX0_takePhrase_28 : decode cX0_takePhrase 28 = .ok (.aload_n 0, 1) := by decide +kernel
theorem dX0_takePhrase_29 : decode cX0_takePhrase 29 = .ok (.getfield 12, 3) := by decide +kernel
theorem dX0_takePhrase_32 : decode cX0_takePhrase 32 = .ok (.iload_n 2, 1) := by decide +kernel
theorem dX0_takePhrase_33 : decode cX0_takePhrase 33 = .ok (.iconst 0, 1) := by decide +kernel
theorem dX0_takePhrase_34 : decode cX0_takePhrase 34 = .ok (.invokevirtual 78, 3) := by decide +kernel
theorem dX0_takePhrase_37 : decode cX0_takePhrase 37 = .ok (.invokevirtual 82, 3) := by decide +kernel
theorem dX0_takePhrase_40 : decode cX0_takePhrase 40 = .ok (.istore 5, 2) := by decide +kernel
theorem dX0_takePhrase_42 : decode cX0_takePhrase 42 = .ok (.aload_n 0, 1) := by decide +kernel
theorem dX0_takePhrase_43 : decode cX0_takePhrase 43 = .ok (.iload_n 1, 1) := by decide +kernel
theorem dX0_takePhrase_44 : decode cX0_takePhrase 44 = .ok (.iconst (-1), 1) := by decide +kernel
theorem dX0_takePhrase_45 : decode cX0_takePhrase 45 = .ok (.if_icmp .ne 8, 3) := by decide +kernel
theorem dX0_takePhrase_48 : decode cX0_takePhrase 48 = .ok (.iload 5, 2) := by decide +kernel
theorem dX0_takePhrase_50 : decode cX0_takePhrase 50 = .ok (.goto 4, 3) := by decide +kernel
theorem dX0_takePhrase_53 : decode cX0_takePhrase 53 = .ok (.iload_n 1, 1) := by decide +kernel
theorem dX0_takePhrase_54 : decode cX0_takePhrase 54 = .ok (.putfield 18, 3) := by decide +kernel
theorem dX0_takePhrase_57 : decode cX0_takePhrase 57 = .ok (.aload_n 0, 1) := by decide +kernel
theorem dX0_takePhrase_58 : decode cX0_takePhrase 58 = .ok (.getfield 12, 3) := by decide +kernel
theorem dX0_takePhrase_61 : decode cX0_takePhrase 61 = .ok (.aload_n 0, 1) := by decide +kernel
theorem dX0_takePhrase_62 : decode cX0_takePhrase 62 = .ok (.getfield 18, 3) := by decide +kernel
theorem dX0_takePhrase_65 : decode cX0_takePhrase 65 = .ok (.aload_n 0, 1) := by decide +kernel
theorem dX0_takePhrase_66 : decode cX0_takePhrase 66 = .ok (.getfield 22, 3) := by decide +kernel
theorem dX0_takePhrase_69 : decode cX0_takePhrase 69 = .ok (.aload_n 0, 1) := by decide +kernel
theorem dX0_takePhrase_70 : decode cX0_takePhrase 70 = .ok (.getfield 36, 3) := by decide +kernel
theorem dX0_takePhrase_73 : decode cX0_takePhrase 73 = .ok (.invokevirtual 85, 3) := by decide +kernel
theorem dX0_takePhrase_76 : decode cX0_takePhrase 76 = .ok (.aload_n 0, 1) := by decide +kernel
theorem dX0_takePhrase_77 : decode cX0_takePhrase 77 = .ok (.dup, 1) := by decide +kernel
theorem dX0_takePhrase_78 : decode cX0_takePhrase 78 = .ok (.getfield 36, 3) := by decide +kernel
theorem dX0_takePhrase_81 : decode cX0_takePhrase 81 = .ok (.iload 4, 2) := by decide +kernel
theorem dX0_takePhrase_83 : decode cX0_takePhrase 83 = .ok (.iadd, 1) := by decide +kernel
theorem dX0_takePhrase_84 : decode cX0_takePhrase 84 = .ok (.putfield 36, 3) := by decide +kernel
theorem dX0_takePhrase_87 : decode cX0_takePhrase 87 = .ok (.iconst 1, 1) := by decide +kernel
theorem dX0_takePhrase_88 : decode cX0_takePhrase 88 = .ok (.ireturn, 1) := by decide +kernel
set_option maxRecDepth 20000 in
theorem ggX0_learn_X1_longerBy : GoodIn wsX0_learn wsX1_longerBy := goodIn_r _ [7, 8, 9, 10, 11, 12, 13, 14, 45, 46, 47, 48, 49, 50, 51, 52] (by decide +kernel) (by decide +kernel)
set_option maxRecDepth 20000 in
theorem gX0_learn_X1_longerBy : GoodIn wsX0_learn (wsV RX0 89 RX1 yX1_longerBy wsX1_longerBy) := goodIn_app (goodIn_of _ (by decide +kernel)) ggX0_learn_X1_longerBy
set_option maxRecDepth 20000 in
theorem ggX0_learn_X1_hasNoRoom : GoodIn wsX0_learn wsX1_hasNoRoom := goodIn_r _ [18, 19, 20, 21, 22, 6, 23, 24, 45, 46, 47, 48, 49, 50, 51, 52] (by decide +kernel) (by decide +kernel)
set_option maxRecDepth 20000 in
theorem gX0_learn_X1_hasNoRoom : GoodIn wsX0_learn (wsV RX0 70 RX1 yX1_hasNoRoom wsX1_hasNoRoom) := goodIn_app (goodIn_of _ (by decide +kernel)) ggX0_learn_X1_hasNoRoom
set_option maxRecDepth 20000 in
theorem ggX0_learn_X1_addLonger : GoodIn wsX0_learn wsX1_addLonger := goodIn_r _ [28, 19, 11, 8, 29, 30, 31, 6, 32, 33, 12, 13, 14, 34, 35, 36, 37, 38, 10, 39, 40, 45, 46, 47, 48, 49, 50, 51, 52] (by decide +kernel) (by decide +kernel)
set_option maxRecDepth 20000 in
theorem gX0_learn_X1_addLonger : GoodIn wsX0_learn (wsV RX0 92 RX1 yX1_addLonger wsX1_addLonger) := goodIn_app (goodIn_of _ (by decide +kernel)) ggX0_learn_X1_addLonger
theorem dX0_learn_0 : decode cX0_learn 0 = .ok (.aload_n 0, 1) := by decide +kernel
theorem dX0_learn_1 : decode cX0_learn 1 = .ok (.getfield 18, 3) := by decide +kernel
theorem dX0_learn_4 : decode cX0_learn 4 = .ok (.iconst (-1), 1) := by decide +kernel
theorem dX0_learn_5 : decode cX0_learn 5 = .ok (.if_icmp .ne 5, 3) := by decide +kernel
theorem dX0_learn_8 : decode cX0_learn 8 = .ok (.iconst (-1), 1) := by decide +kernel
theorem dX0_learn_9 : decode cX0_learn 9 = .ok (.ireturn, 1) := by decide +kernel
theorem dX0_learn_10 : decode cX0_learn 10 = .ok (.aload_n 0, 1) := by decide +kernel
theorem dX0_learn_11 : decode cX0_learn 11 = .ok (.getfield 12, 3) := by decide +kernel
theorem dX0_learn_14 : decode cX0_learn 14 = .ok (.aload_n 0, 1) := by decide +kernel
theorem dX0_learn_15 : decode cX0_learn 15 = .ok (.getfield 18, 3) := by decide +kernel
theorem dX0_learn_18 : decode cX0_learn 18 = .ok (.iload_n 1, 1) := by decide +kernel
theorem dX0_learn_19 : decode cX0_learn 19 = .ok (.invokevirtual 89, 3) := by decide +kernel
theorem dX0_learn_22 : decode cX0_learn 22 = .ok (.istore_n 2, 1) := by decide +kernel
theorem dX0_learn_23 : decode cX0_learn 23 = .ok (.iload_n 2, 1) := by decide +kernel
theorem dX0_learn_24 : decode cX0_learn 24 = .ok (.iconst (-1), 1) := by decide +kernel
theorem dX0_learn_25 : decode cX0_learn 25 = .ok (.if_icmp .ne 13, 3) := by decide +kernel
theorem dX0_learn_28 : decode cX0_learn 28 = .ok (.aload_n 0, 1) := by decide +kernel
theorem dX0_learn_29 : decode cX0_learn 29 = .ok (.getfield 12, 3) := by decide +kernel
theorem dX0_learn_32 : decode cX0_learn 32 = .ok (.invokevirtual 70, 3) := by decide +kernel
theorem dX0_learn_35 : decode cX0_learn 35 = .ok (.ifCond .eq 5, 3) := by decide +kernel
theorem dX0_learn_38 : decode cX0_learn 38 = .ok (.iload_n 2, 1) := by decide +kernel
theorem dX0_learn_39 : decode cX0_learn 39 = .ok (.ireturn, 1) := by decide +kernel
theorem dX0_learn_40 : decode cX0_learn 40 = .ok (.aload_n 0, 1) := by decide +kernel
theorem dX0_learn_41 : decode cX0_learn 41 = .ok (.getfield 12, 3) := by decide +kernel
theorem dX0_learn_44 : decode cX0_learn 44 = .ok (.aload_n 0, 1) := by decide +kernel
theorem dX0_learn_45 : decode cX0_learn 45 = .ok (.getfield 18, 3) := by decide +kernel
theorem dX0_learn_48 : decode cX0_learn 48 = .ok (.iload_n 1, 1) := by decide +kernel
theorem dX0_learn_49 : decode cX0_learn 49 = .ok (.invokevirtual 92, 3) := by decide +kernel
theorem dX0_learn_52 : decode cX0_learn 52 = .ok (.ireturn, 1) := by decide +kernel
theorem dX1_init_0 : decode cX1_init 0 = .ok (.aload_n 0, 1) := by decide +kernel
theorem dX1_init_1 : decode cX1_init 1 = .ok (.invokespecial 3, 3) := by decide +kernel
theorem dX1_init_4 : decode cX1_init 4 = .ok (.aload_n 0, 1) := by decide +kernel
theorem dX1_init_5 : decode cX1_init 5 = .ok (.sipush 256, 3) := by decide +kernel
theorem dX1_init_8 : decode cX1_init 8 = .ok (.newarray .int, 2) := by decide +kernel
theorem dX1_init_10 : decode cX1_init 10 = .ok (.putfield 9, 3) := by decide +kernel
theorem dX1_init_13 : decode cX1_init 13 = .ok (.aload_n 0, 1) := by decide +kernel
theorem dX1_init_14 : decode cX1_init 14 = .ok (.sipush 256, 3) := by decide +kernel
theorem dX1_init_17 : decode cX1_init 17 = .ok (.newarray .int, 2) := by decide +kernel
theorem dX1_init_19 : decode cX1_init 19 = .ok (.putfield 15, 3) := by decide +kernel
theorem dX1_init_22 : decode cX1_init 22 = .ok (.aload_n 0, 1) := by decide +kernel
theorem dX1_init_23 : decode cX1_init 23 = .ok (.sipush 256, 3) := by decide +kernel
theorem dX1_init_26 : decode cX1_init 26 = .ok (.newarray .int, 2) := by decide +kernel
theorem dX1_init_28 : decode cX1_init 28 = .ok (.putfield 18, 3) := by decide +kernel
theorem dX1_init_31 : decode cX1_init 31 = .ok (.aload_n 0, 1) := by decide +kernel
theorem dX1_init_32 : decode cX1_init 32 = .ok (.sipush 256, 3) := by decide +kernel
theorem dX1_init_35 : decode cX1_init 35 = .ok (.newarray .int, 2) := by decide +kernel
theorem dX1_init_37 : decode cX1_init 37 = .ok (.putfield 21, 3) := by decide +kernel
theorem dX1_init_40 : decode cX1_init 40 = .ok (.aload_n 0, 1) := by decide +kernel
theorem dX1_init_41 : decode cX1_init 41 = .ok (.sipush 256, 3) := by decide +kernel
theorem dX1_init_44 : decode cX1_init 44 = .ok (.newarray .int, 2) := by decide +kernel
theorem dX1_init_46 : decode cX1_init 46 = .ok (.putfield 24, 3) := by decide +kernel
theorem dX1_init_49 : decode cX1_init 49 = .ok (.return_, 1) := by decide +kernel
set_option maxRecDepth 20000 in
theorem ggX1_begin_X1_keepFirstCodes : GoodIn wsX1_begin wsX1_keepFirstCodes := goodIn_r _ [7, 1, 8, 9, 10, 11, 6, 12, 13, 14, 15, 16, 17, 18, 19, 20, 21, 22, 23, 24] (by decide +kernel) (by decide +kernel)
set_option maxRecDepth 20000 in
theorem gX1_begin_X1_keepFirstCodes : GoodIn wsX1_begin (wsV RX1 34 RX1 yX1_keepFirstCodes wsX1_keepFirstCodes) := goodIn_app (goodIn_of _ (by decide +kernel)) ggX1_begin_X1_keepFirstCodes
theorem dX1_begin_0 : decode cX1_begin 0 = .ok (.aload_n 0, 1) := by decide +kernel
theorem dX1_begin_1 : decode cX1_begin 1 = .ok (.iload_n 1, 1) := by decide +kernel
theorem dX1_begin_2 : decode cX1_begin 2 = .ok (.putfield 27, 3) := by decide +kernel
theorem dX1_begin_5 : decode cX1_begin 5 = .ok (.aload_n 0, 1) := by decide +kernel
theorem dX1_begin_6 : decode cX1_begin 6 = .ok (.iload_n 2, 1) := by decide +kernel
theorem dX1_begin_7 : decode cX1_begin 7 = .ok (.putfield 31, 3) := by decide +kernel
theorem dX1_begin_10 : decode cX1_begin 10 = .ok (.aload_n 0, 1) := by decide +kernel
theorem dX1_begin_11 : decode cX1_begin 11 = .ok (.invokevirtual 34, 3) := by decide +kernel
theorem dX1_begin_14 : decode cX1_begin 14 = .ok (.return_, 1) := by decide +kernel
set_option maxRecDepth 20000 in
theorem ggX1_keepFirstCodes_X1_define : GoodIn wsX1_keepFirstCodes wsX1_define := goodIn_r _ [7, 8, 9, 10, 11, 12, 13, 14, 15, 16, 17, 18, 19] (by decide +kernel) (by decide +kernel)
set_option maxRecDepth 20000 in
theorem gX1_keepFirstCodes_X1_define : GoodIn wsX1_keepFirstCodes (wsV RX1 37 RX1 yX1_define wsX1_define) := goodIn_app (goodIn_of _ (by decide +kernel)) ggX1_keepFirstCodes_X1_define
theorem dX1_keepFirstCodes_0 : decode cX1_keepFirstCodes 0 = .ok (.iconst 0, 1) := by decide +kernel
theorem dX1_keepFirstCodes_1 : decode cX1_keepFirstCodes 1 = .ok (.istore_n 1, 1) := by decide +kernel
theorem dX1_keepFirstCodes_2 : decode cX1_keepFirstCodes 2 = .ok (.iload_n 1, 1) := by decide +kernel
theorem dX1_keepFirstCodes_3 : decode cX1_keepFirstCodes 3 = .ok (.aload_n 0, 1) := by decide +kernel
theorem dX1_keepFirstCodes_4 : decode cX1_keepFirstCodes 4 = .ok (.getfield 27, 3) := by decide +kernel
theorem dX1_keepFirstCodes_7 : decode cX1_keepFirstCodes 7 = .ok (.if_icmp .ge 17, 3) := by decide +kernel
theorem dX1_keepFirstCodes_10 : decode cX1_keepFirstCodes 10 = .ok (.aload_n 0, 1) := by decide +kernel
theorem dX1_keepFirstCodes_11 : decode cX1_keepFirstCodes 11 = .ok (.iload_n 1, 1) := by decide +kernel
theorem dX1_keepFirstCodes_12 : decode cX1_keepFirstCodes 12 = .ok (.iconst (-1), 1) := by decide +kernel
theorem dX1_keepFirstCodes_13 : decode cX1_keepFirstCodes 13 = .ok (.iload_n 1, 1) := by decide +kernel
theorem dX1_keepFirstCodes_14 : decode cX1_keepFirstCodes 14 = .ok (.iconst 1, 1) := by decide +kernel
theorem dX1_keepFirstCodes_15 : decode cX1_keepFirstCodes 15 = .ok (.invokevirtual 37, 3) := by decide +kernel
theorem dX1_keepFirstCodes_18 : decode cX1_keepFirstCodes 18 = .ok (.iinc 1 1, 3) := by decide +kernel
theorem dX1_keepFirstCodes_21 : decode cX1_keepFirstCodes 21 = .ok (.goto (-19), 3) := by decide +kernel
theorem dX1_keepFirstCodes_24 : decode cX1_keepFirstCodes 24 = .ok (.aload_n 0, 1) := by decide +kernel
theorem dX1_keepFirstCodes_25 : decode cX1_keepFirstCodes 25 = .ok (.aload_n 0, 1) := by decide +kernel
theorem dX1_keepFirstCodes_26 : decode cX1_keepFirstCodes 26 = .ok (.getfield 27, 3) := by decide +kernel
theorem dX1_keepFirstCodes_29 : decode cX1_keepFirstCodes 29 = .ok (.iconst (-1), 1) := by decide +kernel
theorem dX1_keepFirstCodes_30 : decode cX1_keepFirstCodes 30 = .ok (.iconst (-1), 1) := by decide +kernel
theorem dX1_keepFirstCodes_31 : decode cX1_keepFirstCodes 31 = .ok (.iconst 0, 1) := by decide +kernel
theorem dX1_keepFirstCodes_32 : decode cX1_keepFirstCodes 32 = .ok (.invokevirtual 37, 3) := by decide +kernel
theorem dX1_keepFirstCodes_35 : decode cX1_keepFirstCodes 35 = .ok (.aload_n 0, 1) := by decide +kernel
theorem dX1_keepFirstCodes_36 : decode cX1_keepFirstCodes 36 = .ok (.aload_n 0, 1) := by decide +kernel
theorem dX1_keepFirstCodes_37 : decode cX1_keepFirstCodes 37 = .ok (.getfield 27, 3) := by decide +kernel
theorem dX1_keepFirstCodes_40 : decode cX1_keepFirstCodes 40 = .ok (.iconst 1, 1) := by decide +kernel
theorem dX1_keepFirstCodes_41 : decode cX1_keepFirstCodes 41 = .ok (.iadd, 1) := by decide +kernel
theorem dX1_keepFirstCodes_42 : decode cX1_keepFirstCodes 42 = .ok (.putfield 41, 3) := by decide +kernel
theorem dX1_keepFirstCodes_45 : decode cX1_keepFirstCodes 45 = .ok (.return_, 1) := by decide +kernel
theorem dX1_define_0 : decode cX1_define 0 = .ok (.iload_n 1, 1) := by decide +kernel
theorem dX1_define_1 : decode cX1_define 1 = .ok (.ifCond .lt 10, 3) := by decide +kernel
theorem dX1_define_4 : decode cX1_define 4 = .ok (.iload_n 1, 1) := by decide +kernel
theorem dX1_define_5 : decode cX1_define 5 = .ok (.sipush 256, 3) := by decide +kernel
theorem dX1_define_8 : decode cX1_define 8 = .ok (.if_icmp .lt 4, 3) := by decide +kernel
theorem dX1_define_11 : decode cX1_define 11 = .ok (.return_, 1) := by decide +kernel
theorem dX1_define_12 : decode cX1_define 12 = .ok (.aload_n 0, 1) := by decide +kernel
theorem dX1_define_13 : decode cX1_define 13 = .ok (.getfield 9, 3) := by decide +kernel
theorem dX1_define_16 : decode cX1_define 16 = .ok (.iload_n 1, 1) := by decide +kernel
theorem dX1_define_17 : decode cX1_define 17 = .ok (.iload_n 2, 1) := by decide +kernel
theorem dX1_define_18 : decode cX1_define 18 = .ok (.iastore, 1) := by decide +kernel
theorem dX1_define_19 : decode cX1_define 19 = .ok (.aload_n 0, 1) := by decide +kernel
theorem dX1_define_20 : decode cX1_define 20 = .ok (.getfield 15, 3) := by decide +kernel
theorem dX1_define_23 : decode cX1_define 23 = .ok (.iload_n 1, 1) := by decide +kernel
theorem dX1_define_24 : decode cX1_define 24 = .ok (.iload_n 3, 1) := by decide +kernel
theorem dX1_define_25 : decode cX1_define 25 = .ok (.iastore, 1) := by decide +kernel
theorem dX1_define_26 : decode cX1_define 26 = .ok (.aload_n 0, 1) := by decide +kernel
theorem dX1_define_27 : decode cX1_define 27 = .ok (.getfield 18, 3) := by decide +kernel
theorem dX1_define_30 : decode cX1_define 30 = .ok (.iload_n 1, 1) := by decide +kernel
theorem dX1_define_31 : decode cX1_define 31 = .ok (.iload 4, 2) := by decide +kernel
theorem dX1_define_33 : decode cX1_define 33 = .ok (.iastore, 1) := by decide +kernel
theorem dX1_define_34 : decode cX1_define 34 = .ok (.aload_n 0, 1) := by decide +kernel
theorem dX1_define_35 : decode cX1_define 35 = .ok (.getfield 21, 3) := by decide +kernel
theorem dX1_define_38 : decode cX1_define 38 = .ok (.iload_n 1, 1) := by decide +kernel
theorem dX1_define_39 : decode cX1_define 39 = .ok (.iconst (-1), 1) := by decide +kernel
theorem dX1_define_40 : decode cX1_define 40 = .ok (.iastore, 1) := by decide +kernel
theorem dX1_define_41 : decode cX1_define 41 = .ok (.return_, 1) := by decide +kernel
set_option maxRecDepth 20000 in
theorem ggX1_addLonger_X1_lengthOf : GoodIn wsX1_addLonger wsX1_lengthOf := goodIn_r _ [8, 9, 10, 11, 12, 21, 22, 23, 24, 25, 26, 27, 28] (by decide +kernel) (by decide +kernel)
set_option maxRecDepth 20000 in
theorem gX1_addLonger_X1_lengthOf : GoodIn wsX1_addLonger (wsV RX1 44 RX1 yX1_lengthOf wsX1_lengthOf) := goodIn_app (goodIn_of _ (by decide +kernel)) ggX1_addLonger_X1_lengthOf
set_option maxRecDepth 20000 in
theorem ggX1_addLonger_X1_define : GoodIn wsX1_addLonger wsX1_define := goodIn_r _ [16, 17, 18, 9, 3, 21, 22, 23, 24, 25, 26, 27, 28] (by decide +kernel) (by decide +kernel)
set_option maxRecDepth 20000 in
theorem gX1_addLonger_X1_define : GoodIn wsX1_addLonger (wsV RX1 37 RX1 yX1_define wsX1_define) := goodIn_app (goodIn_of _ (by decide +kernel)) ggX1_addLonger_X1_define
set_option maxRecDepth 20000 in
theorem ggX1_addLonger_X7_at : GoodIn wsX1_addLonger wsX7_at := goodIn_r _ [12] (by decide +kernel) (by decide +kernel)
set_option maxRecDepth 20000 in
theorem gX1_addLonger_X7_at_n48 : GoodIn wsX1_addLonger (wsX7_at) := ggX1_addLonger_X7_at
set_option maxRecDepth 20000 in
theorem ggX1_addLonger_X7_put : GoodIn wsX1_addLonger wsX7_put := goodIn_r _ [20] (by decide +kernel) (by decide +kernel)
set_option maxRecDepth 20000 in
theorem gX1_addLonger_X7_put_n52 : GoodIn wsX1_addLonger (wsX7_put) := ggX1_addLonger_X7_put
theorem dX1_addLonger_0 : decode cX1_addLonger 0 = .ok (.aload_n 0, 1) := by decide +kernel
theorem dX1_addLonger_1 : decode cX1_addLonger 1 = .ok (.getfield 41, 3) := by decide +kernel
theorem dX1_addLonger_4 : decode cX1_addLonger 4 = .ok (.istore_n 3, 1) := by decide +kernel
theorem dX1_addLonger_5 : decode cX1_addLonger 5 = .ok (.aload_n 0, 1) := by decide +kernel
theorem dX1_addLonger_6 : decode cX1_addLonger 6 = .ok (.iload_n 3, 1) := by decide +kernel
theorem dX1_addLonger_7 : decode cX1_addLonger 7 = .ok (.iload_n 1, 1) := by decide +kernel
theorem dX1_addLonger_8 : decode cX1_addLonger 8 = .ok (.iload_n 2, 1) := by decide +kernel
theorem dX1_addLonger_9 : decode cX1_addLonger 9 = .ok (.aload_n 0, 1) := by decide +kernel
theorem dX1_addLonger_10 : decode cX1_addLonger 10 = .ok (.iload_n 1, 1) := by decide +kernel
theorem dX1_addLonger_11 : decode cX1_addLonger 11 = .ok (.invokevirtual 44, 3) := by decide +kernel
theorem dX1_addLonger_14 : decode cX1_addLonger 14 = .ok (.iconst 1, 1) := by decide +kernel
theorem dX1_addLonger_15 : decode cX1_addLonger 15 = .ok (.iadd, 1) := by decide +kernel
theorem dX1_addLonger_16 : decode cX1_addLonger 16 = .ok (.invokevirtual 37, 3) := by decide +kernel
theorem dX1_addLonger_19 : decode cX1_addLonger 19 = .ok (.aload_n 0, 1) := by decide +kernel
theorem dX1_addLonger_20 : decode cX1_addLonger 20 = .ok (.getfield 24, 3) := by decide +kernel
theorem dX1_addLonger_23 : decode cX1_addLonger 23 = .ok (.iload_n 3, 1) := by decide +kernel
theorem dX1_addLonger_24 : decode cX1_addLonger 24 = .ok (.aload_n 0, 1) := by decide +kernel
theorem dX1_addLonger_25 : decode cX1_addLonger 25 = .ok (.getfield 21, 3) := by decide +kernel
theorem dX1_addLonger_28 : decode cX1_addLonger 28 = .ok (.iload_n 1, 1) := by decide +kernel
theorem dX1_addLonger_29 : decode cX1_addLonger 29 = .ok (.invokestatic 48, 3) := by decide +kernel
theorem dX1_addLonger_32 : decode cX1_addLonger 32 = .ok (.invokestatic 52, 3) := by decide +kernel
theorem dX1_addLonger_35 : decode cX1_addLonger 35 = .ok (.aload_n 0, 1) := by decide +kernel
theorem dX1_addLonger_36 : decode cX1_addLonger 36 = .ok (.getfield 21, 3) := by decide +kernel
theorem dX1_addLonger_39 : decode cX1_addLonger 39 = .ok (.iload_n 1, 1) := by decide +kernel
theorem dX1_addLonger_40 : decode cX1_addLonger 40 = .ok (.iload_n 3, 1) := by decide +kernel
theorem dX1_addLonger_41 : decode cX1_addLonger 41 = .ok (.invokestatic 52, 3) := by decide +kernel
theorem dX1_addLonger_44 : decode cX1_addLonger 44 = .ok (.aload_n 0, 1) := by decide +kernel
theorem dX1_addLonger_45 : decode cX1_addLonger 45 = .ok (.dup, 1) := by decide +kernel
theorem dX1_addLonger_46 : decode cX1_addLonger 46 = .ok (.getfield 41, 3) := by decide +kernel
theorem dX1_addLonger_49 : decode cX1_addLonger 49 = .ok (.iconst 1, 1) := by decide +kernel
theorem dX1_addLonger_50 : decode cX1_addLonger 50 = .ok (.iadd, 1) := by decide +kernel
theorem dX1_addLonger_51 : decode cX1_addLonger 51 = .ok (.putfield 41, 3) := by decide +kernel
theorem dX1_addLonger_54 : decode cX1_addLonger 54 = .ok (.iload_n 3, 1) := by decide +kernel
theorem dX1_addLonger_55 : decode cX1_addLonger 55 = .ok (.ireturn, 1) := by decide +kernel
set_option maxRecDepth 20000 in
theorem ggX1_longerBy_X7_at : GoodIn wsX1_longerBy wsX7_at := goodIn_r _ [7] (by decide +kernel) (by decide +kernel)
set_option maxRecDepth 20000 in
theorem gX1_longerBy_X7_at_n48 : GoodIn wsX1_longerBy (wsX7_at) := ggX1_longerBy_X7_at
theorem dX1_longerBy_0 : decode cX1_longerBy 0 = .ok (.aload_n 0, 1) := by decide +kernel
theorem dX1_longerBy_1 : decode cX1_longerBy 1 = .ok (.getfield 21, 3) := by decide +kernel
theorem dX1_longerBy_4 : decode cX1_longerBy 4 = .ok (.iload_n 1, 1) := by decide +kernel
theorem dX1_longerBy_5 : decode cX1_longerBy 5 = .ok (.invokestatic 48, 3) := by decide +kernel
theorem dX1_longerBy_8 : decode cX1_longerBy 8 = .ok (.istore_n 3, 1) := by decide +kernel
theorem dX1_longerBy_9 : decode cX1_longerBy 9 = .ok (.iconst 0, 1) := by decide +kernel
theorem dX1_longerBy_10 : decode cX1_longerBy 10 = .ok (.istore 4, 2) := by decide +kernel
theorem dX1_longerBy_12 : decode cX1_longerBy 12 = .ok (.iload 4, 2) := by decide +kernel
theorem dX1_longerBy_14 : decode cX1_longerBy 14 = .ok (.aload_n 0, 1) := by decide +kernel
theorem dX1_longerBy_15 : decode cX1_longerBy 15 = .ok (.getfield 27, 3) := by decide +kernel
theorem dX1_longerBy_18 : decode cX1_longerBy 18 = .ok (.if_icmp .ge 37, 3) := by decide +kernel
theorem dX1_longerBy_21 : decode cX1_longerBy 21 = .ok (.iload_n 3, 1) := by decide +kernel
theorem dX1_longerBy_22 : decode cX1_longerBy 22 = .ok (.iconst (-1), 1) := by decide +kernel
theorem dX1_longerBy_23 : decode cX1_longerBy 23 = .ok (.if_icmp .eq 32, 3) := by decide +kernel
theorem dX1_longerBy_26 : decode cX1_longerBy 26 = .ok (.aload_n 0, 1) := by decide +kernel
theorem dX1_longerBy_27 : decode cX1_longerBy 27 = .ok (.getfield 15, 3) := by decide +kernel
theorem dX1_longerBy_30 : decode cX1_longerBy 30 = .ok (.iload_n 3, 1) := by decide +kernel
theorem dX1_longerBy_31 : decode cX1_longerBy 31 = .ok (.invokestatic 48, 3) := by decide +kernel
theorem dX1_longerBy_34 : decode cX1_longerBy 34 = .ok (.iload_n 2, 1) := by decide +kernel
theorem dX1_longerBy_35 : decode cX1_longerBy 35 = .ok (.if_icmp .ne 5, 3) := by decide +kernel
theorem dX1_longerBy_38 : decode cX1_longerBy 38 = .ok (.iload_n 3, 1) := by decide +kernel
theorem dX1_longerBy_39 : decode cX1_longerBy 39 = .ok (.ireturn, 1) := by decide +kernel
theorem dX1_longerBy_40 : decode cX1_longerBy 40 = .ok (.aload_n 0, 1) := by decide +kernel
theorem dX1_longerBy_41 : decode cX1_longerBy 41 = .ok (.getfield 24, 3) := by decide +kernel
theorem dX1_longerBy_44 : decode cX1_longerBy 44 = .ok (.iload_n 3, 1) := by decide +kernel
theorem dX1_longerBy_45 : decode cX1_longerBy 45 = .ok (.invokestatic 48, 3) := by decide +kernel
theorem dX1_longerBy_48 : decode cX1_longerBy 48 = .ok (.istore_n 3, 1) := by decide +kernel
theorem dX1_longerBy_49 : decode cX1_longerBy 49 = .ok (.iinc 4 1, 3) := by decide +kernel
theorem dX1_longerBy_52 : decode cX1_longerBy 52 = .ok (.goto (-40), 3) := by decide +kernel
theorem dX1_longerBy_55 : decode cX1_longerBy 55 = .ok (.iconst (-1), 1) := by decide +kernel
theorem dX1_longerBy_56 : decode cX1_longerBy 56 = .ok (.ireturn, 1) := by decide +kernel
set_option maxRecDepth 20000 in
theorem ggX1_countLonger_X7_at : GoodIn wsX1_countLonger wsX7_at := goodIn_r _ [6] (by decide +kernel) (by decide +kernel)
set_option maxRecDepth 20000 in
theorem gX1_countLonger_X7_at_n48 : GoodIn wsX1_countLonger (wsX7_at) := ggX1_countLonger_X7_at
theorem dX1_countLonger_0 : decode cX1_countLonger 0 = .ok (.iconst 0, 1) := by decide +kernel
theorem dX1_countLonger_1 : decode cX1_countLonger 1 = .ok (.istore_n 2, 1) := by decide +kernel
theorem dX1_countLonger_2 : decode cX1_countLonger 2 = .ok (.aload_n 0, 1) := by decide +kernel
theorem dX1_countLonger_3 : decode cX1_countLonger 3 = .ok (.getfield 21, 3) := by decide +kernel
theorem dX1_countLonger_6 : decode cX1_countLonger 6 = .ok (.iload_n 1, 1) := by decide +kernel
theorem dX1_countLonger_7 : decode cX1_countLonger 7 = .ok (.invokestatic 48, 3) := by decide +kernel
theorem dX1_countLonger_10 : decode cX1_countLonger 10 = .ok (.istore_n 3, 1) := by decide +kernel
theorem dX1_countLonger_11 : decode cX1_countLonger 11 = .ok (.iload_n 2, 1) := by decide +kernel
theorem dX1_countLonger_12 : decode cX1_countLonger 12 = .ok (.aload_n 0, 1) := by decide +kernel
theorem dX1_countLonger_13 : decode cX1_countLonger 13 = .ok (.getfield 27, 3) := by decide +kernel
theorem dX1_countLonger_16 : decode cX1_countLonger 16 = .ok (.if_icmp .ge 23, 3) := by decide +kernel
theorem dX1_countLonger_19 : decode cX1_countLonger 19 = .ok (.iload_n 3, 1) := by decide +kernel
theorem dX1_countLonger_20 : decode cX1_countLonger 20 = .ok (.iconst (-1), 1) := by decide +kernel
theorem dX1_countLonger_21 : decode cX1_countLonger 21 = .ok (.if_icmp .eq 18, 3) := by decide +kernel
theorem dX1_countLonger_24 : decode cX1_countLonger 24 = .ok (.iinc 2 1, 3) := by decide +kernel
theorem dX1_countLonger_27 : decode cX1_countLonger 27 = .ok (.aload_n 0, 1) := by decide +kernel
theorem dX1_countLonger_28 : decode cX1_countLonger 28 = .ok (.getfield 24, 3) := by decide +kernel
theorem dX1_countLonger_31 : decode cX1_countLonger 31 = .ok (.iload_n 3, 1) := by decide +kernel
theorem dX1_countLonger_32 : decode cX1_countLonger 32 = .ok (.invokestatic 48, 3) := by decide +kernel
theorem dX1_countLonger_35 : decode cX1_countLonger 35 = .ok (.istore_n 3, 1) := by decide +kernel
theorem dX1_countLonger_36 : decode cX1_countLonger 36 = .ok (.goto (-25), 3) := by decide +kernel
theorem dX1_countLonger_39 : decode cX1_countLonger 39 = .ok (.iload_n 2, 1) := by decide +kernel
theorem dX1_countLonger_40 : decode cX1_countLonger 40 = .ok (.ireturn, 1) := by decide +kernel
set_option maxRecDepth 20000 in
theorem ggX1_firstLongest_X1_lengthOf : GoodIn wsX1_firstLongest wsX1_lengthOf := goodIn_r _ [6, 7, 8, 9, 10, 11, 12, 13, 14, 15, 16, 17, 18] (by decide +kernel) (by decide +kernel)
set_option maxRecDepth 20000 in
theorem gX1_firstLongest_X1_lengthOf : GoodIn wsX1_firstLongest (wsV RX1 44 RX1 yX1_lengthOf wsX1_lengthOf) := goodIn_app (goodIn_of _ (by decide +kernel)) ggX1_firstLongest_X1_lengthOf
theorem dX1_firstLongest_0 : decode cX1_firstLongest 0 = .ok (.iconst 0, 1) := by decide +kernel
theorem dX1_firstLongest_1 : decode cX1_firstLongest 1 = .ok (.istore_n 1, 1) := by decide +kernel
theorem dX1_firstLongest_2 : decode cX1_firstLongest 2 = .ok (.iconst 1, 1) := by decide +kernel
theorem dX1_firstLongest_3 : decode cX1_firstLongest 3 = .ok (.istore_n 2, 1) := by decide +kernel
theorem dX1_firstLongest_4 : decode cX1_firstLongest 4 = .ok (.iload_n 2, 1) := by decide +kernel
theorem dX1_firstLongest_5 : decode cX1_firstLongest 5 = .ok (.aload_n 0, 1) := by decide +kernel
theorem dX1_firstLongest_6 : decode cX1_firstLongest 6 = .ok (.getfield 41, 3) := by decide +kernel
theorem dX1_firstLongest_9 : decode cX1_firstLongest 9 = .ok (.if_icmp .ge 24, 3) := by decide +kernel
theorem dX1_firstLongest_12 : decode cX1_firstLongest 12 = .ok (.aload_n 0, 1) := by decide +kernel
theorem dX1_firstLongest_13 : decode cX1_firstLongest 13 = .ok (.iload_n 2, 1) := by decide +kernel
theorem dX1_firstLongest_14 : decode cX1_firstLongest 14 = .ok (.invokevirtual 44, 3) := by decide +kernel
theorem dX1_firstLongest_17 : decode cX1_firstLongest 17 = .ok (.aload_n 0, 1) := by decide +kernel
theorem dX1_firstLongest_18 : decode cX1_firstLongest 18 = .ok (.iload_n 1, 1) := by decide +kernel
theorem dX1_firstLongest_19 : decode cX1_firstLongest 19 = .ok (.invokevirtual 44, 3) := by decide +kernel
theorem dX1_firstLongest_22 : decode cX1_firstLongest 22 = .ok (.if_icmp .le 5, 3) := by decide +kernel
theorem dX1_firstLongest_25 : decode cX1_firstLongest 25 = .ok (.iload_n 2, 1) := by decide +kernel
theorem dX1_firstLongest_26 : decode cX1_firstLongest 26 = .ok (.istore_n 1, 1) := by decide +kernel
theorem dX1_firstLongest_27 : decode cX1_firstLongest 27 = .ok (.iinc 2 1, 3) := by decide +kernel
theorem dX1_firstLongest_30 : decode cX1_firstLongest 30 = .ok (.goto (-26), 3) := by decide +kernel
theorem dX1_firstLongest_33 : decode cX1_firstLongest 33 = .ok (.iload_n 1, 1) := by decide +kernel
theorem dX1_firstLongest_34 : decode cX1_firstLongest 34 = .ok (.ireturn, 1) := by decide +kernel
theorem dX1_hasCode_0 : decode cX1_hasCode 0 = .ok (.iload_n 1, 1) := by decide +kernel
theorem dX1_hasCode_1 : decode cX1_hasCode 1 = .ok (.ifCond .lt 15, 3) := by decide +kernel
theorem dX1_hasCode_4 : decode cX1_hasCode 4 = .ok (.iload_n 1, 1) := by decide +kernel
theorem dX1_hasCode_5 : decode cX1_hasCode 5 = .ok (.aload_n 0, 1) := by decide +kernel
theorem dX1_hasCode_6 : decode cX1_hasCode 6 = .ok (.getfield 41, 3) := by decide +kernel
theorem dX1_hasCode_9 : decode cX1_hasCode 9 = .ok (.if_icmp .ge 7, 3) := by decide +kernel
theorem dX1_hasCode_12 : decode cX1_hasCode 12 = .ok (.iconst 1, 1) := by decide +kernel
theorem dX1_hasCode_13 : decode cX1_hasCode 13 = .ok (.goto 4, 3) := by decide +kernel
theorem dX1_hasCode_16 : decode cX1_hasCode 16 = .ok (.iconst 0, 1) := by decide +kernel
theorem dX1_hasCode_17 : decode cX1_hasCode 17 = .ok (.ireturn, 1) := by decide +kernel
set_option maxRecDepth 20000 in
theorem ggX1_lengthOf_X7_at : GoodIn wsX1_lengthOf wsX7_at := goodIn_r _ [4] (by decide +kernel) (by decide +kernel)
set_option maxRecDepth 20000 in
theorem gX1_lengthOf_X7_at_n48 : GoodIn wsX1_lengthOf (wsX7_at) := ggX1_lengthOf_X7_at
theorem dX1_lengthOf_0 : decode cX1_lengthOf 0 = .ok (.aload_n 0, 1) := by decide +kernel
theorem dX1_lengthOf_1 : decode cX1_lengthOf 1 = .ok (.getfield 18, 3) := by decide +kernel
theorem dX1_lengthOf_4 : decode cX1_lengthOf 4 = .ok (.iload_n 1, 1) := by decide +kernel
theorem dX1_lengthOf_5 : decode cX1_lengthOf 5 = .ok (.invokestatic 48, 3) := by decide +kernel
theorem dX1_lengthOf_8 : decode cX1_lengthOf 8 = .ok (.ireturn, 1) := by decide +kernel
set_option maxRecDepth 20000 in
theorem ggX1_symbolOf_X1_lengthOf : GoodIn wsX1_symbolOf wsX1_lengthOf := goodIn_r _ [7, 8, 9, 10, 11, 12, 13, 14, 15, 16, 17, 18, 19] (by decide +kernel) (by decide +kernel)
set_option maxRecDepth 20000 in
theorem gX1_symbolOf_X1_lengthOf : GoodIn wsX1_symbolOf (wsV RX1 44 RX1 yX1_lengthOf wsX1_lengthOf) := goodIn_app (goodIn_of _ (by decide +kernel)) ggX1_symbolOf_X1_lengthOf
set_option maxRecDepth 20000 in
theorem ggX1_symbolOf_X7_at : GoodIn wsX1_symbolOf wsX7_at := goodIn_r _ [11] (by decide +kernel) (by decide +kernel)
set_option maxRecDepth 20000 in
theorem gX1_symbolOf_X7_at_n48 : GoodIn wsX1_symbolOf (wsX7_at) := ggX1_symbolOf_X7_at
theorem dX1_symbolOf_0 : decode cX1_symbolOf 0 = .ok (.iload_n 1, 1) := by decide +kernel
theorem dX1_symbolOf_1 : decode cX1_symbolOf 1 = .ok (.istore_n 3, 1) := by decide +kernel
theorem dX1_symbolOf_2 : decode cX1_symbolOf 2 = .ok (.aload_n 0, 1) := by decide +kernel
theorem dX1_symbolOf_3 : decode cX1_symbolOf 3 = .ok (.iload_n 1, 1) := by decide +kernel
theorem dX1_symbolOf_4 : decode cX1_symbolOf 4 = .ok (.invokevirtual 44, 3) := by decide +kernel
theorem dX1_symbolOf_7 : decode cX1_symbolOf 7 = .ok (.iconst 1, 1) := by decide +kernel
theorem dX1_symbolOf_8 : decode cX1_symbolOf 8 = .ok (.isub, 1) := by decide +kernel
theorem dX1_symbolOf_9 : decode cX1_symbolOf 9 = .ok (.istore 4, 2) := by decide +kernel
theorem dX1_symbolOf_11 : decode cX1_symbolOf 11 = .ok (.iload 4, 2) := by decide +kernel
theorem dX1_symbolOf_13 : decode cX1_symbolOf 13 = .ok (.iload_n 2, 1) := by decide +kernel
theorem dX1_symbolOf_14 : decode cX1_symbolOf 14 = .ok (.if_icmp .le 18, 3) := by decide +kernel
theorem dX1_symbolOf_17 : decode cX1_symbolOf 17 = .ok (.aload_n 0, 1) := by decide +kernel
theorem dX1_symbolOf_18 : decode cX1_symbolOf 18 = .ok (.getfield 9, 3) := by decide +kernel
theorem dX1_symbolOf_21 : decode cX1_symbolOf 21 = .ok (.iload_n 3, 1) := by decide +kernel
theorem dX1_symbolOf_22 : decode cX1_symbolOf 22 = .ok (.invokestatic 48, 3) := by decide +kernel
theorem dX1_symbolOf_25 : decode cX1_symbolOf 25 = .ok (.istore_n 3, 1) := by decide +kernel
theorem dX1_symbolOf_26 : decode cX1_symbolOf 26 = .ok (.iinc 4 (-1), 3) := by decide +kernel
theorem dX1_symbolOf_29 : decode cX1_symbolOf 29 = .ok (.goto (-18), 3) := by decide +kernel
theorem dX1_symbolOf_32 : decode cX1_symbolOf 32 = .ok (.aload_n 0, 1) := by decide +kernel
theorem dX1_symbolOf_33 : decode cX1_symbolOf 33 = .ok (.getfield 15, 3) := by decide +kernel
theorem dX1_symbolOf_36 : decode cX1_symbolOf 36 = .ok (.iload_n 3, 1) := by decide +kernel
theorem dX1_symbolOf_37 : decode cX1_symbolOf 37 = .ok (.invokestatic 48, 3) := by decide +kernel
theorem dX1_symbolOf_40 : decode cX1_symbolOf 40 = .ok (.ireturn, 1) := by decide +kernel
set_option maxRecDepth 20000 in
theorem ggX1_spell_X1_lengthOf : GoodIn wsX1_spell wsX1_lengthOf := goodIn_r _ [7, 8, 9, 10, 11, 14, 15, 16, 17, 18, 19, 20, 21] (by decide +kernel) (by decide +kernel)
set_option maxRecDepth 20000 in
theorem gX1_spell_X1_lengthOf : GoodIn wsX1_spell (wsV RX1 44 RX1 yX1_lengthOf wsX1_lengthOf) := goodIn_app (goodIn_of _ (by decide +kernel)) ggX1_spell_X1_lengthOf
set_option maxRecDepth 20000 in
theorem ggX1_spell_X7_at : GoodIn wsX1_spell wsX7_at := goodIn_r _ [11] (by decide +kernel) (by decide +kernel)
set_option maxRecDepth 20000 in
theorem gX1_spell_X7_at_n48 : GoodIn wsX1_spell (wsX7_at) := ggX1_spell_X7_at
set_option maxRecDepth 20000 in
theorem ggX1_spell_X7_put : GoodIn wsX1_spell wsX7_put := goodIn_r _ [13] (by decide +kernel) (by decide +kernel)
set_option maxRecDepth 20000 in
theorem gX1_spell_X7_put_n52 : GoodIn wsX1_spell (wsX7_put) := ggX1_spell_X7_put
theorem dX1_spell_0 : decode cX1_spell 0 = .ok (.iload_n 1, 1) := by decide +kernel
theorem dX1_spell_1 : decode cX1_spell 1 = .ok (.istore 4, 2) := by decide +kernel
theorem dX1_spell_3 : decode cX1_spell 3 = .ok (.aload_n 0, 1) := by decide +kernel
theorem dX1_spell_4 : decode cX1_spell 4 = .ok (.iload_n 1, 1) := by decide +kernel
theorem dX1_spell_5 : decode cX1_spell 5 = .ok (.invokevirtual 44, 3) := by decide +kernel
theorem dX1_spell_8 : decode cX1_spell 8 = .ok (.iconst 1, 1) := by decide +kernel
theorem dX1_spell_9 : decode cX1_spell 9 = .ok (.isub, 1) := by decide +kernel
theorem dX1_spell_10 : decode cX1_spell 10 = .ok (.istore 5, 2) := by decide +kernel
theorem dX1_spell_12 : decode cX1_spell 12 = .ok (.iload 5, 2) := by decide +kernel
theorem dX1_spell_14 : decode cX1_spell 14 = .ok (.ifCond .lt 37, 3) := by decide +kernel
theorem dX1_spell_17 : decode cX1_spell 17 = .ok (.aload_n 2, 1) := by decide +kernel
theorem dX1_spell_18 : decode cX1_spell 18 = .ok (.iload_n 3, 1) := by decide +kernel
theorem dX1_spell_19 : decode cX1_spell 19 = .ok (.iload 5, 2) := by decide +kernel
theorem dX1_spell_21 : decode cX1_spell 21 = .ok (.iadd, 1) := by decide +kernel
theorem dX1_spell_22 : decode cX1_spell 22 = .ok (.aload_n 0, 1) := by decide +kernel
theorem dX1_spell_23 : decode cX1_spell 23 = .ok (.getfield 15, 3) := by decide +kernel
theorem dX1_spell_26 : decode cX1_spell 26 = .ok (.iload 4, 2) := by decide +kernel
theorem dX1_spell_28 : decode cX1_spell 28 = .ok (.invokestatic 48, 3) := by decide +kernel
theorem dX1_spell_31 : decode cX1_spell 31 = .ok (.invokestatic 52, 3) := by decide +kernel
theorem dX1_spell_34 : decode cX1_spell 34 = .ok (.aload_n 0, 1) := by decide +kernel
theorem dX1_spell_35 : decode cX1_spell 35 = .ok (.getfield 9, 3) := by decide +kernel
theorem dX1_spell_38 : decode cX1_spell 38 = .ok (.iload 4, 2) := by decide +kernel
theorem dX1_spell_40 : decode cX1_spell 40 = .ok (.invokestatic 48, 3) := by decide +kernel
theorem dX1_spell_43 : decode cX1_spell 43 = .ok (.istore 4, 2) := by decide +kernel
theorem dX1_spell_45 : decode cX1_spell 45 = .ok (.iinc 5 (-1), 3) := by decide +kernel
theorem dX1_spell_48 : decode cX1_spell 48 = .ok (.goto (-36), 3) := by decide +kernel
theorem dX1_spell_51 : decode cX1_spell 51 = .ok (.return_, 1) := by decide +kernel
theorem dX1_room_0 : decode cX1_room 0 = .ok (.iconst 1, 1) := by decide +kernel
theorem dX1_room_1 : decode cX1_room 1 = .ok (.aload_n 0, 1) := by decide +kernel
theorem dX1_room_2 : decode cX1_room 2 = .ok (.getfield 31, 3) := by decide +kernel
theorem dX1_room_5 : decode cX1_room 5 = .ok (.ishl, 1) := by decide +kernel
theorem dX1_room_6 : decode cX1_room 6 = .ok (.ireturn, 1) := by decide +kernel
set_option maxRecDepth 20000 in
theorem ggX1_hasNoRoom_X1_room : GoodIn wsX1_hasNoRoom wsX1_room := goodIn_r _ [6, 7, 8, 9, 10, 11, 12, 13, 14, 15] (by decide +kernel) (by decide +kernel)
set_option maxRecDepth 20000 in
theorem gX1_hasNoRoom_X1_room : GoodIn wsX1_hasNoRoom (wsV RX1 56 RX1 yX1_room wsX1_room) := goodIn_app (goodIn_of _ (by decide +kernel)) ggX1_hasNoRoom_X1_room
theorem dX1_hasNoRoom_0 : decode cX1_hasNoRoom 0 = .ok (.aload_n 0, 1) := by decide +kernel
theorem dX1_hasNoRoom_1 : decode cX1_hasNoRoom 1 = .ok (.getfield 41, 3) := by decide +kernel
theorem dX1_hasNoRoom_4 : decode cX1_hasNoRoom 4 = .ok (.aload_n 0, 1) := by decide +kernel
theorem dX1_hasNoRoom_5 : decode cX1_hasNoRoom 5 = .ok (.invokevirtual 56, 3) := by decide +kernel
theorem dX1_hasNoRoom_8 : decode cX1_hasNoRoom 8 = .ok (.if_icmp .lt 7, 3) := by decide +kernel
theorem dX1_hasNoRoom_11 : decode cX1_hasNoRoom 11 = .ok (.iconst 1, 1) := by decide +kernel
theorem dX1_hasNoRoom_12 : decode cX1_hasNoRoom 12 = .ok (.goto 4, 3) := by decide +kernel
theorem dX1_hasNoRoom_15 : decode cX1_hasNoRoom 15 = .ok (.iconst 0, 1) := by decide +kernel
theorem dX1_hasNoRoom_16 : decode cX1_hasNoRoom 16 = .ok (.ireturn, 1) := by decide +kernel
set_option maxRecDepth 20000 in
theorem ggX1_widthOfSymbols_X7_widthFor : GoodIn wsX1_widthOfSymbols wsX7_widthFor := goodIn_r _ [4] (by decide +kernel) (by decide +kernel)
set_option maxRecDepth 20000 in
theorem gX1_widthOfSymbols_X7_widthFor_n60 : GoodIn wsX1_widthOfSymbols (wsX7_widthFor) := ggX1_widthOfSymbols_X7_widthFor
theorem dX1_widthOfSymbols_0 : decode cX1_widthOfSymbols 0 = .ok (.aload_n 0, 1) := by decide +kernel
theorem dX1_widthOfSymbols_1 : decode cX1_widthOfSymbols 1 = .ok (.getfield 27, 3) := by decide +kernel
theorem dX1_widthOfSymbols_4 : decode cX1_widthOfSymbols 4 = .ok (.invokestatic 60, 3) := by decide +kernel
theorem dX1_widthOfSymbols_7 : decode cX1_widthOfSymbols 7 = .ok (.ireturn, 1) := by decide +kernel
set_option maxRecDepth 20000 in
theorem ggX1_widthOfCodes_X7_widthFor : GoodIn wsX1_widthOfCodes wsX7_widthFor := goodIn_r _ [4] (by decide +kernel) (by decide +kernel)
set_option maxRecDepth 20000 in
theorem gX1_widthOfCodes_X7_widthFor_n60 : GoodIn wsX1_widthOfCodes (wsX7_widthFor) := ggX1_widthOfCodes_X7_widthFor
theorem dX1_widthOfCodes_0 : decode cX1_widthOfCodes 0 = .ok (.aload_n 0, 1) := by decide +kernel
theorem dX1_widthOfCodes_1 : decode cX1_widthOfCodes 1 = .ok (.getfield 41, 3) := by decide +kernel
theorem dX1_widthOfCodes_4 : decode cX1_widthOfCodes 4 = .ok (.invokestatic 60, 3) := by decide +kernel
theorem dX1_widthOfCodes_7 : decode cX1_widthOfCodes 7 = .ok (.ireturn, 1) := by decide +kernel
set_option maxRecDepth 20000 in
theorem ggX1_copyFrom_X7_copyRow : GoodIn wsX1_copyFrom wsX7_copyRow := goodIn_r _ [11, 12, 13, 14, 15, 16, 17, 18, 19] (by decide +kernel) (by decide +kernel)
set_option maxRecDepth 20000 in
theorem gX1_copyFrom_X7_copyRow_n63 : GoodIn wsX1_copyFrom (wsX7_copyRow) := ggX1_copyFrom_X7_copyRow
theorem dX1_copyFrom_0 : decode cX1_copyFrom 0 = .ok (.aload_n 0, 1) := by decide +kernel
theorem dX1_copyFrom_1 : decode cX1_copyFrom 1 = .ok (.aload_n 1, 1) := by decide +kernel
theorem dX1_copyFrom_2 : decode cX1_copyFrom 2 = .ok (.getfield 27, 3) := by decide +kernel
theorem dX1_copyFrom_5 : decode cX1_copyFrom 5 = .ok (.putfield 27, 3) := by decide +kernel
theorem dX1_copyFrom_8 : decode cX1_copyFrom 8 = .ok (.aload_n 0, 1) := by decide +kernel
theorem dX1_copyFrom_9 : decode cX1_copyFrom 9 = .ok (.aload_n 1, 1) := by decide +kernel
theorem dX1_copyFrom_10 : decode cX1_copyFrom 10 = .ok (.getfield 31, 3) := by decide +kernel
theorem dX1_copyFrom_13 : decode cX1_copyFrom 13 = .ok (.putfield 31, 3) := by decide +kernel
theorem dX1_copyFrom_16 : decode cX1_copyFrom 16 = .ok (.aload_n 0, 1) := by decide +kernel
theorem dX1_copyFrom_17 : decode cX1_copyFrom 17 = .ok (.aload_n 1, 1) := by decide +kernel
theorem dX1_copyFrom_18 : decode cX1_copyFrom 18 = .ok (.getfield 41, 3) := by decide +kernel
theorem dX1_copyFrom_21 : decode cX1_copyFrom 21 = .ok (.putfield 41, 3) := by decide +kernel
theorem dX1_copyFrom_24 : decode cX1_copyFrom 24 = .ok (.aload_n 1, 1) := by decide +kernel
theorem dX1_copyFrom_25 : decode cX1_copyFrom 25 = .ok (.getfield 9, 3) := by decide +kernel
theorem dX1_copyFrom_28 : decode cX1_copyFrom 28 = .ok (.aload_n 0, 1) := by decide +kernel
theorem dX1_copyFrom_29 : decode cX1_copyFrom 29 = .ok (.getfield 9, 3) := by decide +kernel
theorem dX1_copyFrom_32 : decode cX1_copyFrom 32 = .ok (.aload_n 0, 1) := by decide +kernel
theorem dX1_copyFrom_33 : decode cX1_copyFrom 33 = .ok (.getfield 41, 3) := by decide +kernel
theorem dX1_copyFrom_36 : decode cX1_copyFrom 36 = .ok (.invokestatic 63, 3) := by decide +kernel
theorem dX1_copyFrom_39 : decode cX1_copyFrom 39 = .ok (.aload_n 1, 1) := by decide +kernel
theorem dX1_copyFrom_40 : decode cX1_copyFrom 40 = .ok (.getfield 15, 3) := by decide +kernel
theorem dX1_copyFrom_43 : decode cX1_copyFrom 43 = .ok (.aload_n 0, 1) := by decide +kernel
theorem dX1_copyFrom_44 : decode cX1_copyFrom 44 = .ok (.getfield 15, 3) := by decide +kernel
theorem dX1_copyFrom_47 : decode cX1_copyFrom 47 = .ok (.aload_n 0, 1) := by decide +kernel
theorem dX1_copyFrom_48 : decode cX1_copyFrom 48 = .ok (.getfield 41, 3) := by decide +kernel
theorem dX1_copyFrom_51 : decode cX1_copyFrom 51 = .ok (.invokestatic 63, 3) := by decide +kernel
theorem dX1_copyFrom_54 : decode cX1_copyFrom 54 = .ok (.aload_n 1, 1) := by decide +kernel
theorem dX1_copyFrom_55 : decode cX1_copyFrom 55 = .ok (.getfield 18, 3) := by decide +kernel
theorem dX1_copyFrom_58 : decode cX1_copyFrom 58 = .ok (.aload_n 0, 1) := by decide +kernel
theorem dX1_copyFrom_59 : decode cX1_copyFrom 59 = .ok (.getfield 18, 3) := by decide +kernel
theorem dX1_copyFrom_62 : decode cX1_copyFrom 62 = .ok (.aload_n 0, 1) := by decide +kernel
theorem dX1_copyFrom_63 : decode cX1_copyFrom 63 = .ok (.getfield 41, 3) := by decide +kernel
theorem dX1_copyFrom_66 : decode cX1_copyFrom 66 = .ok (.invokestatic 63, 3) := by decide +kernel
theorem dX1_copyFrom_69 : decode cX1_copyFrom 69 = .ok (.aload_n 1, 1) := by decide +kernel
theorem dX1_copyFrom_70 : decode cX1_copyFrom 70 = .ok (.getfield 21, 3) := by decide +kernel
theorem dX1_copyFrom_73 : decode cX1_copyFrom 73 = .ok (.aload_n 0, 1) := by decide +kernel
theorem dX1_copyFrom_74 : decode cX1_copyFrom 74 = .ok (.getfield 21, 3) := by decide +kernel
theorem dX1_copyFrom_77 : decode cX1_copyFrom 77 = .ok (.aload_n 0, 1) := by decide +kernel
theorem dX1_copyFrom_78 : decode cX1_copyFrom 78 = .ok (.getfield 41, 3) := by decide +kernel
theorem dX1_copyFrom_81 : decode cX1_copyFrom 81 = .ok (.invokestatic 63, 3) := by decide +kernel
theorem dX1_copyFrom_84 : decode cX1_copyFrom 84 = .ok (.aload_n 1, 1) := by decide +kernel
theorem dX1_copyFrom_85 : decode cX1_copyFrom 85 = .ok (.getfield 24, 3) := by decide +kernel
theorem dX1_copyFrom_88 : decode cX1_copyFrom 88 = .ok (.aload_n 0, 1) := by decide +kernel
theorem dX1_copyFrom_89 : decode cX1_copyFrom 89 = .ok (.getfield 24, 3) := by decide +kernel
theorem dX1_copyFrom_92 : decode cX1_copyFrom 92 = .ok (.aload_n 0, 1) := by decide +kernel
theorem dX1_copyFrom_93 : decode cX1_copyFrom 93 = .ok (.getfield 41, 3) := by decide +kernel
theorem dX1_copyFrom_96 : decode cX1_copyFrom 96 = .ok (.invokestatic 63, 3) := by decide +kernel
theorem dX1_copyFrom_99 : decode cX1_copyFrom 99 = .ok (.return_, 1) := by decide +kernel
set_option maxRecDepth 20000 in
theorem ggX2_init_X1_init : GoodIn wsX2_init wsX1_init := goodIn_r _ [14, 15, 2, 3, 9, 16, 17, 18, 19, 20, 21, 22, 23, 24, 25, 26, 27, 28] (by decide +kernel) (by decide +kernel)
set_option maxRecDepth 20000 in
theorem gX2_init_X1_init_n11 : GoodIn wsX2_init (wsX1_init) := ggX2_init_X1_init
theorem dX2_init_0 : decode cX2_init 0 = .ok (.aload_n 0, 1) := by decide +kernel
theorem dX2_init_1 : decode cX2_init 1 = .ok (.invokespecial 3, 3) := by decide +kernel
theorem dX2_init_4 : decode cX2_init 4 = .ok (.aload_n 0, 1) := by decide +kernel
theorem dX2_init_5 : decode cX2_init 5 = .ok (.new 9, 3) := by decide +kernel
theorem dX2_init_8 : decode cX2_init 8 = .ok (.dup, 1) := by decide +kernel
theorem dX2_init_9 : decode cX2_init 9 = .ok (.invokespecial 11, 3) := by decide +kernel
theorem dX2_init_12 : decode cX2_init 12 = .ok (.putfield 12, 3) := by decide +kernel
theorem dX2_init_15 : decode cX2_init 15 = .ok (.aload_n 0, 1) := by decide +kernel
theorem dX2_init_16 : decode cX2_init 16 = .ok (.iconst (-1), 1) := by decide +kernel
theorem dX2_init_17 : decode cX2_init 17 = .ok (.putfield 18, 3) := by decide +kernel
theorem dX2_init_20 : decode cX2_init 20 = .ok (.aload_n 0, 1) := by decide +kernel
theorem dX2_init_21 : decode cX2_init 21 = .ok (.sipush 400, 3) := by decide +kernel
theorem dX2_init_24 : decode cX2_init 24 = .ok (.newarray .int, 2) := by decide +kernel
theorem dX2_init_26 : decode cX2_init 26 = .ok (.putfield 22, 3) := by decide +kernel
theorem dX2_init_29 : decode cX2_init 29 = .ok (.aload_n 0, 1) := by decide +kernel
theorem dX2_init_30 : decode cX2_init 30 = .ok (.sipush 800, 3) := by decide +kernel
theorem dX2_init_33 : decode cX2_init 33 = .ok (.newarray .int, 2) := by decide +kernel
theorem dX2_init_35 : decode cX2_init 35 = .ok (.putfield 26, 3) := by decide +kernel
theorem dX2_init_38 : decode cX2_init 38 = .ok (.aload_n 0, 1) := by decide +kernel
theorem dX2_init_39 : decode cX2_init 39 = .ok (.sipush 800, 3) := by decide +kernel
theorem dX2_init_42 : decode cX2_init 42 = .ok (.newarray .int, 2) := by decide +kernel
theorem dX2_init_44 : decode cX2_init 44 = .ok (.putfield 29, 3) := by decide +kernel
theorem dX2_init_47 : decode cX2_init 47 = .ok (.return_, 1) := by decide +kernel
set_option maxRecDepth 20000 in
theorem ggX2_begin_X1_begin : GoodIn wsX2_begin wsX1_begin := goodIn_r _ [8, 9, 10, 11, 12, 13, 7, 14, 15, 16, 17, 18, 19, 20, 21, 22, 23, 56, 57, 58, 59, 60, 61, 62, 63] (by decide +kernel) (by decide +kernel)
set_option maxRecDepth 20000 in
theorem gX2_begin_X1_begin : GoodIn wsX2_begin (wsV RX2 32 RX1 yX1_begin wsX1_begin) := goodIn_app (goodIn_of _ (by decide +kernel)) ggX2_begin_X1_begin
set_option maxRecDepth 20000 in
theorem ggX2_begin_X2_startAnew : GoodIn wsX2_begin wsX2_startAnew := goodIn_r _ [28, 1, 29, 30, 31, 32, 33, 34, 12, 13, 7, 14, 9, 15, 16, 17, 18, 19, 20, 21, 22, 23, 35, 36, 37, 27, 38, 39, 40, 41, 42, 43, 44, 45, 46, 47, 48, 49, 50, 51, 52, 53, 54, 55, 56, 57, 58, 59, 60, 61, 62, 63] (by decide +kernel) (by decide +kernel)
set_option maxRecDepth 20000 in
theorem gX2_begin_X2_startAnew : GoodIn wsX2_begin (wsV RX2 42 RX2 yX2_startAnew wsX2_startAnew) := goodIn_app (goodIn_of _ (by decide +kernel)) ggX2_begin_X2_startAnew
theorem dX2_begin_0 : decode cX2_begin 0 = .ok (.aload_n 0, 1) := by decide +kernel
theorem dX2_begin_1 : decode cX2_begin 1 = .ok (.getfield 12, 3) := by decide +kernel
theorem dX2_begin_4 : decode cX2_begin 4 = .ok (.iload_n 1, 1) := by decide +kernel
theorem dX2_begin_5 : decode cX2_begin 5 = .ok (.iload_n 2, 1) := by decide +kernel
theorem dX2_begin_6 : decode cX2_begin 6 = .ok (.invokevirtual 32, 3) := by decide +kernel
theorem dX2_begin_9 : decode cX2_begin 9 = .ok (.aload_n 0, 1) := by decide +kernel
theorem dX2_begin_10 : decode cX2_begin 10 = .ok (.iload_n 3, 1) := by decide +kernel
theorem dX2_begin_11 : decode cX2_begin 11 = .ok (.putfield 36, 3) := by decide +kernel
theorem dX2_begin_14 : decode cX2_begin 14 = .ok (.aload_n 0, 1) := by decide +kernel
theorem dX2_begin_15 : decode cX2_begin 15 = .ok (.iload 4, 2) := by decide +kernel
theorem dX2_begin_17 : decode cX2_begin 17 = .ok (.putfield 39, 3) := by decide +kernel
theorem dX2_begin_20 : decode cX2_begin 20 = .ok (.aload_n 0, 1) := by decide +kernel
theorem dX2_begin_21 : decode cX2_begin 21 = .ok (.invokevirtual 42, 3) := by decide +kernel
theorem dX2_begin_24 : decode cX2_begin 24 = .ok (.return_, 1) := by decide +kernel
set_option maxRecDepth 20000 in
theorem ggX2_startAnew_X1_keepFirstCodes : GoodIn wsX2_startAnew wsX1_keepFirstCodes := goodIn_r _ [11, 12, 13, 14, 15, 16, 10, 17, 18, 19, 20, 21, 44, 45, 46, 47, 48, 49, 50, 51] (by decide +kernel) (by decide +kernel)
set_option maxRecDepth 20000 in
theorem gX2_startAnew_X1_keepFirstCodes : GoodIn wsX2_startAnew (wsV RX2 45 RX1 yX1_keepFirstCodes wsX1_keepFirstCodes) := goodIn_app (goodIn_of _ (by decide +kernel)) ggX2_startAnew_X1_keepFirstCodes
set_option maxRecDepth 20000 in
theorem ggX2_startAnew_X2_forgetRecent : GoodIn wsX2_startAnew wsX2_forgetRecent := goodIn_r _ [26, 27, 28, 29, 30, 31, 32, 33, 34, 35, 36, 37, 38, 39, 40, 41, 42, 43] (by decide +kernel) (by decide +kernel)
set_option maxRecDepth 20000 in
theorem gX2_startAnew_X2_forgetRecent : GoodIn wsX2_startAnew (wsV RX2 60 RX2 yX2_forgetRecent wsX2_forgetRecent) := goodIn_app (goodIn_of _ (by decide +kernel)) ggX2_startAnew_X2_forgetRecent
theorem dX2_startAnew_0 : decode cX2_startAnew 0 = .ok (.aload_n 0, 1) := by decide +kernel
theorem dX2_startAnew_1 : decode cX2_startAnew 1 = .ok (.getfield 12, 3) := by decide +kernel
theorem dX2_startAnew_4 : decode cX2_startAnew 4 = .ok (.invokevirtual 45, 3) := by decide +kernel
theorem dX2_startAnew_7 : decode cX2_startAnew 7 = .ok (.aload_n 0, 1) := by decide +kernel
theorem dX2_startAnew_8 : decode cX2_startAnew 8 = .ok (.iconst (-1), 1) := by decide +kernel
theorem dX2_startAnew_9 : decode cX2_startAnew 9 = .ok (.putfield 18, 3) := by decide +kernel
theorem dX2_startAnew_12 : decode cX2_startAnew 12 = .ok (.aload_n 0, 1) := by decide +kernel
theorem dX2_startAnew_13 : decode cX2_startAnew 13 = .ok (.iconst 0, 1) := by decide +kernel
theorem dX2_startAnew_14 : decode cX2_startAnew 14 = .ok (.putfield 48, 3) := by decide +kernel
theorem dX2_startAnew_17 : decode cX2_startAnew 17 = .ok (.aload_n 0, 1) := by decide +kernel
theorem dX2_startAnew_18 : decode cX2_startAnew 18 = .ok (.iconst 0, 1) := by decide +kernel
theorem dX2_startAnew_19 : decode cX2_startAnew 19 = .ok (.putfield 51, 3) := by decide +kernel
theorem dX2_startAnew_22 : decode cX2_startAnew 22 = .ok (.aload_n 0, 1) := by decide +kernel
theorem dX2_startAnew_23 : decode cX2_startAnew 23 = .ok (.iconst 0, 1) := by decide +kernel
theorem dX2_startAnew_24 : decode cX2_startAnew 24 = .ok (.putfield 54, 3) := by decide +kernel
theorem dX2_startAnew_27 : decode cX2_startAnew 27 = .ok (.aload_n 0, 1) := by decide +kernel
theorem dX2_startAnew_28 : decode cX2_startAnew 28 = .ok (.iconst 0, 1) := by decide +kernel
theorem dX2_startAnew_29 : decode cX2_startAnew 29 = .ok (.putfield 57, 3) := by decide +kernel
theorem dX2_startAnew_32 : decode cX2_startAnew 32 = .ok (.aload_n 0, 1) := by decide +kernel
theorem dX2_startAnew_33 : decode cX2_startAnew 33 = .ok (.invokevirtual 60, 3) := by decide +kernel
theorem dX2_startAnew_36 : decode cX2_startAnew 36 = .ok (.return_, 1) := by decide +kernel
theorem dX2_forgetRecent_0 : decode cX2_forgetRecent 0 = .ok (.aload_n 0, 1) := by decide +kernel
theorem dX2_forgetRecent_1 : decode cX2_forgetRecent 1 = .ok (.iconst 0, 1) := by decide +kernel
theorem dX2_forgetRecent_2 : decode cX2_forgetRecent 2 = .ok (.putfield 63, 3) := by decide +kernel
theorem dX2_forgetRecent_5 : decode cX2_forgetRecent 5 = .ok (.aload_n 0, 1) := by decide +kernel
theorem dX2_forgetRecent_6 : decode cX2_forgetRecent 6 = .ok (.iconst 0, 1) := by decide +kernel
theorem dX2_forgetRecent_7 : decode cX2_forgetRecent 7 = .ok (.putfield 66, 3) := by decide +kernel
theorem dX2_forgetRecent_10 : decode cX2_forgetRecent 10 = .ok (.aload_n 0, 1) := by decide +kernel
theorem dX2_forgetRecent_11 : decode cX2_forgetRecent 11 = .ok (.iconst 0, 1) := by decide +kernel
theorem dX2_forgetRecent_12 : decode cX2_forgetRecent 12 = .ok (.putfield 69, 3) := by decide +kernel
theorem dX2_forgetRecent_15 : decode cX2_forgetRecent 15 = .ok (.return_, 1) := by decide +kernel
set_option maxRecDepth 20000 in
theorem ggX2_takeSymbol_X2_codesFor : GoodIn wsX2_takeSymbol wsX2_codesFor := goodIn_r _ [9, 1, 2, 10, 11, 12, 13, 14, 15, 16, 17, 18, 19, 20, 21, 22, 23, 24, 8, 25, 26, 27, 28, 29, 30, 31, 32, 33, 34, 35, 36, 37, 38, 39, 40, 41, 42, 43, 44, 45, 46, 47, 48, 49, 50, 51, 52, 53, 54, 55, 56, 57, 58, 101, 102, 103, 104, 105, 106, 107, 108, 109, 110, 111, 112, 113, 114, 115, 116, 117, 118, 119, 120, 121, 122] (by decide +kernel) (by decide +kernel)
set_option maxRecDepth 20000 in
theorem gX2_takeSymbol_X2_codesFor : GoodIn wsX2_takeSymbol (wsV RX2 72 RX2 yX2_codesFor wsX2_codesFor) := goodIn_app (goodIn_of _ (by decide +kernel)) ggX2_takeSymbol_X2_codesFor
set_option maxRecDepth 20000 in
theorem ggX2_takeSymbol_X1_longerBy : GoodIn wsX2_takeSymbol wsX1_longerBy := goodIn_r _ [14, 15, 16, 17, 18, 19, 20, 21, 115, 116, 117, 118, 119, 120, 121, 122] (by decide +kernel) (by decide +kernel)
set_option maxRecDepth 20000 in
theorem gX2_takeSymbol_X1_longerBy : GoodIn wsX2_takeSymbol (wsV RX2 76 RX1 yX1_longerBy wsX1_longerBy) := goodIn_app (goodIn_of _ (by decide +kernel)) ggX2_takeSymbol_X1_longerBy
set_option maxRecDepth 20000 in
theorem ggX2_takeSymbol_X2_replacePhrase : GoodIn wsX2_takeSymbol wsX2_replacePhrase := goodIn_r _ [62, 2, 1, 63, 64, 65, 8, 66, 67, 28, 27, 46, 47, 48, 13, 49, 50, 19, 20, 21, 40, 41, 42, 43, 34, 44, 45, 68, 69, 70, 71, 72, 73, 74, 75, 76, 77, 78, 79, 80, 81, 82, 83, 84, 85, 86, 87, 88, 89, 90, 16, 91, 92, 93, 94, 95, 17, 15, 30, 31, 32, 33, 35, 36, 37, 38, 39, 96, 97, 98, 99, 18, 100, 101, 102, 103, 104, 105, 106, 107, 108, 109, 110, 111, 112, 113, 114, 115, 116, 117, 118, 119, 120, 121, 122] (by decide +kernel) (by decide +kernel)
set_option maxRecDepth 20000 in
theorem gX2_takeSymbol_X2_replacePhrase : GoodIn wsX2_takeSymbol (wsV RX2 80 RX2 yX2_replacePhrase wsX2_replacePhrase) := goodIn_app (goodIn_of _ (by decide +kernel)) ggX2_takeSymbol_X2_replacePhrase
set_option maxRecDepth 20000 in
theorem ggX2_takeSymbol_X7_put : GoodIn wsX2_takeSymbol wsX7_put := goodIn_r _ [77] (by decide +kernel) (by decide +kernel)
set_option maxRecDepth 20000 in
theorem gX2_takeSymbol_X7_put_n84 : GoodIn wsX2_takeSymbol (wsX7_put) := ggX2_takeSymbol_X7_put
theorem dX2_takeSymbol_0 : decode cX2_takeSymbol 0 = .ok (.aload_n 0, 1) := by decide +kernel
theorem dX2_takeSymbol_1 : decode cX2_takeSymbol 1 = .ok (.iload_n 1, 1) := by decide +kernel
theorem dX2_takeSymbol_2 : decode cX2_takeSymbol 2 = .ok (.invokevirtual 72, 3) := by decide +kernel
theorem dX2_takeSymbol_5 : decode cX2_takeSymbol 5 = .ok (.istore_n 2, 1) := by decide +kernel
theorem dX2_takeSymbol_6 : decode cX2_takeSymbol 6 = .ok (.iload_n 2, 1) := by decide +kernel
theorem dX2_takeSymbol_7 : decode cX2_takeSymbol 7 = .ok (.ifCond .ne 34, 3) := by decide +kernel
theorem dX2_takeSymbol_10 : decode cX2_takeSymbol 10 = .ok (.aload_n 0, 1) := by decide +kernel
theorem dX2_takeSymbol_11 : decode cX2_takeSymbol 11 = .ok (.aload_n 0, 1) := by decide +kernel
theorem dX2_takeSymbol_12 : decode cX2_takeSymbol 12 = .ok (.getfield 18, 3) := by decide +kernel
theorem dX2_takeSymbol_15 : decode cX2_takeSymbol 15 = .ok (.iconst (-1), 1) := by decide +kernel
theorem dX2_takeSymbol_16 : decode cX2_takeSymbol 16 = .ok (.if_icmp .ne 7, 3) := by decide +kernel
theorem dX2_takeSymbol_19 : decode cX2_takeSymbol 19 = .ok (.iload_n 1, 1) := by decide +kernel
theorem dX2_takeSymbol_20 : decode cX2_takeSymbol 20 = .ok (.goto 15, 3) := by decide +kernel
theorem dX2_takeSymbol_23 : decode cX2_takeSymbol 23 = .ok (.aload_n 0, 1) := by decide +kernel
theorem dX2_takeSymbol_24 : decode cX2_takeSymbol 24 = .ok (.getfield 12, 3) := by decide +kernel
theorem dX2_takeSymbol_27 : decode cX2_takeSymbol 27 = .ok (.aload_n 0, 1) := by decide +kernel
theorem dX2_takeSymbol_28 : decode cX2_takeSymbol 28 = .ok (.getfield 18, 3) := by decide +kernel
theorem dX2_takeSymbol_31 : decode cX2_takeSymbol 31 = .ok (.iload_n 1, 1) := by decide +kernel
theorem dX2_takeSymbol_32 : decode cX2_takeSymbol 32 = .ok (.invokevirtual 76, 3) := by decide +kernel
theorem dX2_takeSymbol_35 : decode cX2_takeSymbol 35 = .ok (.putfield 18, 3) := by decide +kernel
theorem dX2_takeSymbol_38 : decode cX2_takeSymbol 38 = .ok (.goto 18, 3) := by decide +kernel
theorem dX2_takeSymbol_41 : decode cX2_takeSymbol 41 = .ok (.aload_n 0, 1) := by decide +kernel
theorem dX2_takeSymbol_42 : decode cX2_takeSymbol 42 = .ok (.iload_n 1, 1) := by decide +kernel
theorem dX2_takeSymbol_43 : decode cX2_takeSymbol 43 = .ok (.iload_n 2, 1) := by decide +kernel
theorem dX2_takeSymbol_44 : decode cX2_takeSymbol 44 = .ok (.iconst 2, 1) := by decide +kernel
theorem dX2_takeSymbol_45 : decode cX2_takeSymbol 45 = .ok (.if_icmp .ne 7, 3) := by decide +kernel
theorem dX2_takeSymbol_48 : decode cX2_takeSymbol 48 = .ok (.iconst 1, 1) := by decide +kernel
theorem dX2_takeSymbol_49 : decode cX2_takeSymbol 49 = .ok (.goto 4, 3) := by decide +kernel
theorem dX2_takeSymbol_52 : decode cX2_takeSymbol 52 = .ok (.iconst 0, 1) := by decide +kernel
theorem dX2_takeSymbol_53 : decode cX2_takeSymbol 53 = .ok (.invokevirtual 80, 3) := by decide +kernel
theorem dX2_takeSymbol_56 : decode cX2_takeSymbol 56 = .ok (.aload_n 0, 1) := by decide +kernel
theorem dX2_takeSymbol_57 : decode cX2_takeSymbol 57 = .ok (.getfield 22, 3) := by decide +kernel
theorem dX2_takeSymbol_60 : decode cX2_takeSymbol 60 = .ok (.aload_n 0, 1) := by decide +kernel
theorem dX2_takeSymbol_61 : decode cX2_takeSymbol 61 = .ok (.getfield 48, 3) := by decide +kernel
theorem dX2_takeSymbol_64 : decode cX2_takeSymbol 64 = .ok (.iload_n 1, 1) := by decide +kernel
theorem dX2_takeSymbol_65 : decode cX2_takeSymbol 65 = .ok (.invokestatic 84, 3) := by decide +kernel
theorem dX2_takeSymbol_68 : decode cX2_takeSymbol 68 = .ok (.aload_n 0, 1) := by decide +kernel
theorem dX2_takeSymbol_69 : decode cX2_takeSymbol 69 = .ok (.dup, 1) := by decide +kernel
theorem dX2_takeSymbol_70 : decode cX2_takeSymbol 70 = .ok (.getfield 48, 3) := by decide +kernel
theorem dX2_takeSymbol_73 : decode cX2_takeSymbol 73 = .ok (.iconst 1, 1) := by decide +kernel
theorem dX2_takeSymbol_74 : decode cX2_takeSymbol 74 = .ok (.iadd, 1) := by decide +kernel
theorem dX2_takeSymbol_75 : decode cX2_takeSymbol 75 = .ok (.putfield 48, 3) := by decide +kernel
theorem dX2_takeSymbol_78 : decode cX2_takeSymbol 78 = .ok (.iload_n 2, 1) := by decide +kernel
theorem dX2_takeSymbol_79 : decode cX2_takeSymbol 79 = .ok (.ireturn, 1) := by decide +kernel
set_option maxRecDepth 20000 in
theorem ggX2_replacePhrase_X2_writePhrase : GoodIn wsX2_replacePhrase wsX2_writePhrase := goodIn_r _ [7, 8, 9, 1, 2, 10, 11, 12, 13, 14, 15, 16, 17, 18, 19, 20, 21, 22, 23, 24, 25, 26, 27, 28, 29, 6, 30, 31, 32, 33, 34, 35, 36, 73, 74, 75, 76, 77, 78, 79, 80, 81, 82, 83, 84, 85, 86, 87, 88, 89, 90, 91, 92, 93, 94] (by decide +kernel) (by decide +kernel)
set_option maxRecDepth 20000 in
theorem gX2_replacePhrase_X2_writePhrase : GoodIn wsX2_replacePhrase (wsV RX2 88 RX2 yX2_writePhrase wsX2_writePhrase) := goodIn_app (goodIn_of _ (by decide +kernel)) ggX2_replacePhrase_X2_writePhrase
set_option maxRecDepth 20000 in
theorem ggX2_replacePhrase_X2_writeClear : GoodIn wsX2_replacePhrase wsX2_writeClear := goodIn_r _ [40, 1, 41, 27, 28, 29, 6, 30, 31, 32, 33, 34, 20, 21, 22, 14, 23, 24, 25, 18, 26, 35, 36, 42, 43, 44, 45, 8, 9, 10, 46, 47, 48, 49, 50, 51, 52, 53, 54, 55, 56, 16, 57, 73, 74, 75, 76, 77, 78, 79, 80, 81, 82, 83, 84, 85, 86, 87, 88, 89, 90, 91, 92, 93, 94] (by decide +kernel) (by decide +kernel)
set_option maxRecDepth 20000 in
theorem gX2_replacePhrase_X2_writeClear : GoodIn wsX2_replacePhrase (wsV RX2 91 RX2 yX2_writeClear wsX2_writeClear) := goodIn_app (goodIn_of _ (by decide +kernel)) ggX2_replacePhrase_X2_writeClear
set_option maxRecDepth 20000 in
theorem ggX2_replacePhrase_X1_hasNoRoom : GoodIn wsX2_replacePhrase wsX1_hasNoRoom := goodIn_r _ [61, 24, 62, 63, 64, 14, 65, 66, 87, 88, 89, 90, 91, 92, 93, 94] (by decide +kernel) (by decide +kernel)
set_option maxRecDepth 20000 in
theorem gX2_replacePhrase_X1_hasNoRoom : GoodIn wsX2_replacePhrase (wsV RX2 94 RX1 yX1_hasNoRoom wsX1_hasNoRoom) := goodIn_app (goodIn_of _ (by decide +kernel)) ggX2_replacePhrase_X1_hasNoRoom
set_option maxRecDepth 20000 in
theorem ggX2_replacePhrase_X1_addLonger : GoodIn wsX2_replacePhrase wsX1_addLonger := goodIn_r _ [70, 24, 71, 57, 72, 12, 13, 14, 15, 16, 17, 18, 19, 51, 52, 53, 54, 55, 56, 35, 36, 87, 88, 89, 90, 91, 92, 93, 94] (by decide +kernel) (by decide +kernel)
set_option maxRecDepth 20000 in
theorem gX2_replacePhrase_X1_addLonger : GoodIn wsX2_replacePhrase (wsV RX2 98 RX1 yX1_addLonger wsX1_addLonger) := goodIn_app (goodIn_of _ (by decide +kernel)) ggX2_replacePhrase_X1_addLonger
theorem dX2_replacePhrase_0 : decode cX2_replacePhrase 0 = .ok (.aload_n 0, 1) := by decide +kernel
theorem dX2_replacePhrase_1 : decode cX2_replacePhrase 1 = .ok (.invokevirtual 88, 3) := by decide +kernel
theorem dX2_replacePhrase_4 : decode cX2_replacePhrase 4 = .ok (.iload_n 2, 1) := by decide +kernel
theorem dX2_replacePhrase_5 : decode cX2_replacePhrase 5 = .ok (.ifCond .eq 10, 3) := by decide +kernel
theorem dX2_replacePhrase_8 : decode cX2_replacePhrase 8 = .ok (.aload_n 0, 1) := by decide +kernel
theorem dX2_replacePhrase_9 : decode cX2_replacePhrase 9 = .ok (.invokevirtual 91, 3) := by decide +kernel
theorem dX2_replacePhrase_12 : decode cX2_replacePhrase 12 = .ok (.goto 26, 3) := by decide +kernel
theorem dX2_replacePhrase_15 : decode cX2_replacePhrase 15 = .ok (.aload_n 0, 1) := by decide +kernel
theorem dX2_replacePhrase_16 : decode cX2_replacePhrase 16 = .ok (.getfield 12, 3) := by decide +kernel
theorem dX2_replacePhrase_19 : decode cX2_replacePhrase 19 = .ok (.invokevirtual 94, 3) := by decide +kernel
theorem dX2_replacePhrase_22 : decode cX2_replacePhrase 22 = .ok (.ifCond .ne 16, 3) := by decide +kernel
theorem dX2_replacePhrase_25 : decode cX2_replacePhrase 25 = .ok (.aload_n 0, 1) := by decide +kernel
theorem dX2_replacePhrase_26 : decode cX2_replacePhrase 26 = .ok (.getfield 12, 3) := by decide +kernel
theorem dX2_replacePhrase_29 : decode cX2_replacePhrase 29 = .ok (.aload_n 0, 1) := by decide +kernel
theorem dX2_replacePhrase_30 : decode cX2_replacePhrase 30 = .ok (.getfield 18, 3) := by decide +kernel
theorem dX2_replacePhrase_33 : decode cX2_replacePhrase 33 = .ok (.iload_n 1, 1) := by decide +kernel
theorem dX2_replacePhrase_34 : decode cX2_replacePhrase 34 = .ok (.invokevirtual 98, 3) := by decide +kernel
theorem dX2_replacePhrase_37 : decode cX2_replacePhrase 37 = .ok (.pop, 1) := by decide +kernel
theorem dX2_replacePhrase_38 : decode cX2_replacePhrase 38 = .ok (.aload_n 0, 1) := by decide +kernel
theorem dX2_replacePhrase_39 : decode cX2_replacePhrase 39 = .ok (.iload_n 1, 1) := by decide +kernel
theorem dX2_replacePhrase_40 : decode cX2_replacePhrase 40 = .ok (.putfield 18, 3) := by decide +kernel
theorem dX2_replacePhrase_43 : decode cX2_replacePhrase 43 = .ok (.return_, 1) := by decide +kernel
set_option maxRecDepth 20000 in
theorem ggX2_codesFor_X1_longerBy : GoodIn wsX2_codesFor wsX1_longerBy := goodIn_r _ [7, 8, 9, 10, 11, 12, 13, 14, 67, 68, 69, 70, 71, 72, 73, 74] (by decide +kernel) (by decide +kernel)
set_option maxRecDepth 20000 in
theorem gX2_codesFor_X1_longerBy : GoodIn wsX2_codesFor (wsV RX2 76 RX1 yX1_longerBy wsX1_longerBy) := goodIn_app (goodIn_of _ (by decide +kernel)) ggX2_codesFor_X1_longerBy
set_option maxRecDepth 20000 in
theorem ggX2_codesFor_X2_asksForClearing : GoodIn wsX2_codesFor wsX2_asksForClearing := goodIn_r _ [19, 2, 20, 21, 22, 1, 23, 24, 25, 26, 6, 27, 28, 29, 30, 31, 32, 33, 34, 35, 36, 37, 38, 13, 39, 40, 41, 42, 43, 44, 12, 14, 45, 46, 47, 18, 48, 49, 50, 51, 52, 9, 53, 54, 55, 56, 57, 58, 59, 60, 61, 62, 63, 64, 65, 66, 67, 68, 69, 70, 71, 72, 73, 74] (by decide +kernel) (by decide +kernel)
set_option maxRecDepth 20000 in
theorem gX2_codesFor_X2_asksForClearing : GoodIn wsX2_codesFor (wsV RX2 101 RX2 yX2_asksForClearing wsX2_asksForClearing) := goodIn_app (goodIn_of _ (by decide +kernel)) ggX2_codesFor_X2_asksForClearing
theorem dX2_codesFor_0 : decode cX2_codesFor 0 = .ok (.aload_n 0, 1) := by decide +kernel
theorem dX2_codesFor_1 : decode cX2_codesFor 1 = .ok (.getfield 18, 3) := by decide +kernel
theorem dX2_codesFor_4 : decode cX2_codesFor 4 = .ok (.iconst (-1), 1) := by decide +kernel
theorem dX2_codesFor_5 : decode cX2_codesFor 5 = .ok (.if_icmp .eq 19, 3) := by decide +kernel
theorem dX2_codesFor_8 : decode cX2_codesFor 8 = .ok (.aload_n 0, 1) := by decide +kernel
theorem dX2_codesFor_9 : decode cX2_codesFor 9 = .ok (.getfield 12, 3) := by decide +kernel
theorem dX2_codesFor_12 : decode cX2_codesFor 12 = .ok (.aload_n 0, 1) := by decide +kernel
theorem dX2_codesFor_13 : decode cX2_codesFor 13 = .ok (.getfield 18, 3) := by decide +kernel
theorem dX2_codesFor_16 : decode cX2_codesFor 16 = .ok (.iload_n 1, 1) := by decide +kernel
theorem dX2_codesFor_17 : decode cX2_codesFor 17 = .ok (.invokevirtual 76, 3) := by decide +kernel
theorem dX2_codesFor_20 : decode cX2_codesFor 20 = .ok (.iconst (-1), 1) := by decide +kernel
theorem dX2_codesFor_21 : decode cX2_codesFor 21 = .ok (.if_icmp .eq 5, 3) := by decide +kernel
theorem dX2_codesFor_24 : decode cX2_codesFor 24 = .ok (.iconst 0, 1) := by decide +kernel
theorem dX2_codesFor_25 : decode cX2_codesFor 25 = .ok (.ireturn, 1) := by decide +kernel
theorem dX2_codesFor_26 : decode cX2_codesFor 26 = .ok (.aload_n 0, 1) := by decide +kernel
theorem dX2_codesFor_27 : decode cX2_codesFor 27 = .ok (.invokevirtual 101, 3) := by decide +kernel
theorem dX2_codesFor_30 : decode cX2_codesFor 30 = .ok (.ifCond .eq 7, 3) := by decide +kernel
theorem dX2_codesFor_33 : decode cX2_codesFor 33 = .ok (.iconst 2, 1) := by decide +kernel
theorem dX2_codesFor_34 : decode cX2_codesFor 34 = .ok (.goto 4, 3) := by decide +kernel
theorem dX2_codesFor_37 : decode cX2_codesFor 37 = .ok (.iconst 1, 1) := by decide +kernel
theorem dX2_codesFor_38 : decode cX2_codesFor 38 = .ok (.ireturn, 1) := by decide +kernel
set_option maxRecDepth 20000 in
theorem ggX2_asksForClearing_X1_hasNoRoom : GoodIn wsX2_asksForClearing wsX1_hasNoRoom := goodIn_r _ [11, 12, 13, 14, 15, 10, 16, 17, 56, 57, 58, 59, 60, 61, 62, 63] (by decide +kernel) (by decide +kernel)
set_option maxRecDepth 20000 in
theorem gX2_asksForClearing_X1_hasNoRoom : GoodIn wsX2_asksForClearing (wsV RX2 94 RX1 yX1_hasNoRoom wsX1_hasNoRoom) := goodIn_app (goodIn_of _ (by decide +kernel)) ggX2_asksForClearing_X1_hasNoRoom
set_option maxRecDepth 20000 in
theorem ggX2_asksForClearing_X1_widthOfCodes : GoodIn wsX2_asksForClearing wsX1_widthOfCodes := goodIn_r _ [21, 12, 22, 23, 24, 56, 57, 58, 59, 60, 61, 62, 63] (by decide +kernel) (by decide +kernel)
set_option maxRecDepth 20000 in
theorem gX2_asksForClearing_X1_widthOfCodes : GoodIn wsX2_asksForClearing (wsV RX2 104 RX1 yX1_widthOfCodes wsX1_widthOfCodes) := goodIn_app (goodIn_of _ (by decide +kernel)) ggX2_asksForClearing_X1_widthOfCodes
set_option maxRecDepth 20000 in
theorem ggX2_asksForClearing_X1_lengthOf : GoodIn wsX2_asksForClearing wsX1_lengthOf := goodIn_r _ [28, 29, 30, 23, 31, 56, 57, 58, 59, 60, 61, 62, 63] (by decide +kernel) (by decide +kernel)
set_option maxRecDepth 20000 in
theorem gX2_asksForClearing_X1_lengthOf : GoodIn wsX2_asksForClearing (wsV RX2 108 RX1 yX1_lengthOf wsX1_lengthOf) := goodIn_app (goodIn_of _ (by decide +kernel)) ggX2_asksForClearing_X1_lengthOf
set_option maxRecDepth 20000 in
theorem ggX2_asksForClearing_X2_percent : GoodIn wsX2_asksForClearing wsX2_percent := goodIn_r _ [36, 1, 37, 38, 39, 10, 40, 41, 22, 23, 24, 42, 43, 44, 45, 46, 47, 48, 49, 50, 51, 52, 53, 54, 55, 56, 57, 58, 59, 60, 61, 62, 63] (by decide +kernel) (by decide +kernel)
set_option maxRecDepth 20000 in
theorem gX2_asksForClearing_X2_percent : GoodIn wsX2_asksForClearing (wsV RX2 111 RX2 yX2_percent wsX2_percent) := goodIn_app (goodIn_of _ (by decide +kernel)) ggX2_asksForClearing_X2_percent
theorem dX2_asksForClearing_0 : decode cX2_asksForClearing 0 = .ok (.aload_n 0, 1) := by decide +kernel
theorem dX2_asksForClearing_1 : decode cX2_asksForClearing 1 = .ok (.getfield 12, 3) := by decide +kernel
theorem dX2_asksForClearing_4 : decode cX2_asksForClearing 4 = .ok (.invokevirtual 94, 3) := by decide +kernel
theorem dX2_asksForClearing_7 : decode cX2_asksForClearing 7 = .ok (.ifCond .eq 10, 3) := by decide +kernel
theorem dX2_asksForClearing_10 : decode cX2_asksForClearing 10 = .ok (.aload_n 0, 1) := by decide +kernel
theorem dX2_asksForClearing_11 : decode cX2_asksForClearing 11 = .ok (.getfield 36, 3) := by decide +kernel
theorem dX2_asksForClearing_14 : decode cX2_asksForClearing 14 = .ok (.ifCond .ne 5, 3) := by decide +kernel
theorem dX2_asksForClearing_17 : decode cX2_asksForClearing 17 = .ok (.iconst 0, 1) := by decide +kernel
theorem dX2_asksForClearing_18 : decode cX2_asksForClearing 18 = .ok (.ireturn, 1) := by decide +kernel
theorem dX2_asksForClearing_19 : decode cX2_asksForClearing 19 = .ok (.aload_n 0, 1) := by decide +kernel
theorem dX2_asksForClearing_20 : decode cX2_asksForClearing 20 = .ok (.getfield 69, 3) := by decide +kernel
theorem dX2_asksForClearing_23 : decode cX2_asksForClearing 23 = .ok (.aload_n 0, 1) := by decide +kernel
theorem dX2_asksForClearing_24 : decode cX2_asksForClearing 24 = .ok (.getfield 12, 3) := by decide +kernel
theorem dX2_asksForClearing_27 : decode cX2_asksForClearing 27 = .ok (.invokevirtual 104, 3) := by decide +kernel
theorem dX2_asksForClearing_30 : decode cX2_asksForClearing 30 = .ok (.iadd, 1) := by decide +kernel
theorem dX2_asksForClearing_31 : decode cX2_asksForClearing 31 = .ok (.istore_n 1, 1) := by decide +kernel
theorem dX2_asksForClearing_32 : decode cX2_asksForClearing 32 = .ok (.aload_n 0, 1) := by decide +kernel
theorem dX2_asksForClearing_33 : decode cX2_asksForClearing 33 = .ok (.getfield 66, 3) := by decide +kernel
theorem dX2_asksForClearing_36 : decode cX2_asksForClearing 36 = .ok (.aload_n 0, 1) := by decide +kernel
theorem dX2_asksForClearing_37 : decode cX2_asksForClearing 37 = .ok (.getfield 12, 3) := by decide +kernel
theorem dX2_asksForClearing_40 : decode cX2_asksForClearing 40 = .ok (.aload_n 0, 1) := by decide +kernel
theorem dX2_asksForClearing_41 : decode cX2_asksForClearing 41 = .ok (.getfield 18, 3) := by decide +kernel
theorem dX2_asksForClearing_44 : decode cX2_asksForClearing 44 = .ok (.invokevirtual 108, 3) := by decide +kernel
theorem dX2_asksForClearing_47 : decode cX2_asksForClearing 47 = .ok (.iadd, 1) := by decide +kernel
theorem dX2_asksForClearing_48 : decode cX2_asksForClearing 48 = .ok (.istore_n 2, 1) := by decide +kernel
theorem dX2_asksForClearing_49 : decode cX2_asksForClearing 49 = .ok (.aload_n 0, 1) := by decide +kernel
theorem dX2_asksForClearing_50 : decode cX2_asksForClearing 50 = .ok (.getfield 36, 3) := by decide +kernel
theorem dX2_asksForClearing_53 : decode cX2_asksForClearing 53 = .ok (.iconst 1, 1) := by decide +kernel
theorem dX2_asksForClearing_54 : decode cX2_asksForClearing 54 = .ok (.if_icmp .eq 16, 3) := by decide +kernel
theorem dX2_asksForClearing_57 : decode cX2_asksForClearing 57 = .ok (.aload_n 0, 1) := by decide +kernel
theorem dX2_asksForClearing_58 : decode cX2_asksForClearing 58 = .ok (.iload_n 1, 1) := by decide +kernel
theorem dX2_asksForClearing_59 : decode cX2_asksForClearing 59 = .ok (.iload_n 2, 1) := by decide +kernel
theorem dX2_asksForClearing_60 : decode cX2_asksForClearing 60 = .ok (.invokevirtual 111, 3) := by decide +kernel
theorem dX2_asksForClearing_63 : decode cX2_asksForClearing 63 = .ok (.aload_n 0, 1) := by decide +kernel
theorem dX2_asksForClearing_64 : decode cX2_asksForClearing 64 = .ok (.getfield 39, 3) := by decide +kernel
theorem dX2_asksForClearing_67 : decode cX2_asksForClearing 67 = .ok (.if_icmp .le 7, 3) := by decide +kernel
theorem dX2_asksForClearing_70 : decode cX2_asksForClearing 70 = .ok (.iconst 1, 1) := by decide +kernel
theorem dX2_asksForClearing_71 : decode cX2_asksForClearing 71 = .ok (.goto 4, 3) := by decide +kernel
theorem dX2_asksForClearing_74 : decode cX2_asksForClearing 74 = .ok (.iconst 0, 1) := by decide +kernel
theorem dX2_asksForClearing_75 : decode cX2_asksForClearing 75 = .ok (.ireturn, 1) := by decide +kernel
set_option maxRecDepth 20000 in
theorem ggX2_percent_X1_widthOfSymbols : GoodIn wsX2_percent wsX1_widthOfSymbols := goodIn_r _ [6, 7, 8, 9, 10, 25, 26, 27, 28, 29, 30, 31, 32] (by decide +kernel) (by decide +kernel)
set_option maxRecDepth 20000 in
theorem gX2_percent_X1_widthOfSymbols : GoodIn wsX2_percent (wsV RX2 114 RX1 yX1_widthOfSymbols wsX1_widthOfSymbols) := goodIn_app (goodIn_of _ (by decide +kernel)) ggX2_percent_X1_widthOfSymbols
theorem dX2_percent_0 : decode cX2_percent 0 = .ok (.iload_n 2, 1) := by decide +kernel
theorem dX2_percent_1 : decode cX2_percent 1 = .ok (.aload_n 0, 1) := by decide +kernel
theorem dX2_percent_2 : decode cX2_percent 2 = .ok (.getfield 12, 3) := by decide +kernel
theorem dX2_percent_5 : decode cX2_percent 5 = .ok (.invokevirtual 114, 3) := by decide +kernel
theorem dX2_percent_8 : decode cX2_percent 8 = .ok (.imul, 1) := by decide +kernel
theorem dX2_percent_9 : decode cX2_percent 9 = .ok (.istore_n 3, 1) := by decide +kernel
theorem dX2_percent_10 : decode cX2_percent 10 = .ok (.iload_n 3, 1) := by decide +kernel
theorem dX2_percent_11 : decode cX2_percent 11 = .ok (.ifCond .gt 7, 3) := by decide +kernel
theorem dX2_percent_14 : decode cX2_percent 14 = .ok (.iconst 0, 1) := by decide +kernel
theorem dX2_percent_15 : decode cX2_percent 15 = .ok (.goto 9, 3) := by decide +kernel
theorem dX2_percent_18 : decode cX2_percent 18 = .ok (.bipush 100, 2) := by decide +kernel
theorem dX2_percent_20 : decode cX2_percent 20 = .ok (.iload_n 1, 1) := by decide +kernel
theorem dX2_percent_21 : decode cX2_percent 21 = .ok (.imul, 1) := by decide +kernel
theorem dX2_percent_22 : decode cX2_percent 22 = .ok (.iload_n 3, 1) := by decide +kernel
theorem dX2_percent_23 : decode cX2_percent 23 = .ok (.idiv, 1) := by decide +kernel
theorem dX2_percent_24 : decode cX2_percent 24 = .ok (.ireturn, 1) := by decide +kernel
set_option maxRecDepth 20000 in
theorem ggX2_endPhrase_X2_writePhrase : GoodIn wsX2_endPhrase wsX2_writePhrase := goodIn_r _ [6, 7, 8, 9, 1, 10, 11, 12, 13, 14, 15, 16, 17, 18, 19, 20, 21, 22, 23, 24, 25, 26, 27, 28, 29, 5, 30, 31, 32, 33, 34, 35, 36, 58, 59, 60, 61, 62, 63, 64, 65, 66, 67, 68, 69, 70, 71, 72, 73, 74, 75, 76, 77, 78, 79] (by decide +kernel) (by decide +kernel)
set_option maxRecDepth 20000 in
theorem gX2_endPhrase_X2_writePhrase : GoodIn wsX2_endPhrase (wsV RX2 88 RX2 yX2_writePhrase wsX2_writePhrase) := goodIn_app (goodIn_of _ (by decide +kernel)) ggX2_endPhrase_X2_writePhrase
set_option maxRecDepth 20000 in
theorem ggX2_endPhrase_X2_writeClear : GoodIn wsX2_endPhrase wsX2_writeClear := goodIn_r _ [40, 9, 41, 27, 28, 29, 5, 30, 31, 32, 33, 34, 20, 21, 22, 14, 23, 24, 25, 18, 26, 35, 36, 42, 43, 44, 45, 7, 8, 10, 46, 47, 48, 49, 50, 51, 52, 53, 54, 55, 56, 16, 57, 58, 59, 60, 61, 62, 63, 64, 65, 66, 67, 68, 69, 70, 71, 72, 73, 74, 75, 76, 77, 78, 79] (by decide +kernel) (by decide +kernel)
set_option maxRecDepth 20000 in
theorem gX2_endPhrase_X2_writeClear : GoodIn wsX2_endPhrase (wsV RX2 91 RX2 yX2_writeClear wsX2_writeClear) := goodIn_app (goodIn_of _ (by decide +kernel)) ggX2_endPhrase_X2_writeClear
theorem dX2_endPhrase_0 : decode cX2_endPhrase 0 = .ok (.aload_n 0, 1) := by decide +kernel
theorem dX2_endPhrase_1 : decode cX2_endPhrase 1 = .ok (.getfield 18, 3) := by decide +kernel
theorem dX2_endPhrase_4 : decode cX2_endPhrase 4 = .ok (.iconst (-1), 1) := by decide +kernel
theorem dX2_endPhrase_5 : decode cX2_endPhrase 5 = .ok (.if_icmp .ne 5, 3) := by decide +kernel
theorem dX2_endPhrase_8 : decode cX2_endPhrase 8 = .ok (.iconst 0, 1) := by decide +kernel
theorem dX2_endPhrase_9 : decode cX2_endPhrase 9 = .ok (.ireturn, 1) := by decide +kernel
theorem dX2_endPhrase_10 : decode cX2_endPhrase 10 = .ok (.aload_n 0, 1) := by decide +kernel
theorem dX2_endPhrase_11 : decode cX2_endPhrase 11 = .ok (.invokevirtual 88, 3) := by decide +kernel
theorem dX2_endPhrase_14 : decode cX2_endPhrase 14 = .ok (.aload_n 0, 1) := by decide +kernel
theorem dX2_endPhrase_15 : decode cX2_endPhrase 15 = .ok (.invokevirtual 91, 3) := by decide +kernel
theorem dX2_endPhrase_18 : decode cX2_endPhrase 18 = .ok (.aload_n 0, 1) := by decide +kernel
theorem dX2_endPhrase_19 : decode cX2_endPhrase 19 = .ok (.iconst (-1), 1) := by decide +kernel
theorem dX2_endPhrase_20 : decode cX2_endPhrase 20 = .ok (.putfield 18, 3) := by decide +kernel
theorem dX2_endPhrase_23 : decode cX2_endPhrase 23 = .ok (.iconst 2, 1) := by decide +kernel
theorem dX2_endPhrase_24 : decode cX2_endPhrase 24 = .ok (.ireturn, 1) := by decide +kernel
set_option maxRecDepth 20000 in
theorem ggX2_writePhrase_X1_lengthOf : GoodIn wsX2_writePhrase wsX1_lengthOf := goodIn_r _ [10, 11, 12, 13, 14, 47, 48, 49, 50, 51, 52, 53, 54] (by decide +kernel) (by decide +kernel)
set_option maxRecDepth 20000 in
theorem gX2_writePhrase_X1_lengthOf : GoodIn wsX2_writePhrase (wsV RX2 108 RX1 yX1_lengthOf wsX1_lengthOf) := goodIn_app (goodIn_of _ (by decide +kernel)) ggX2_writePhrase_X1_lengthOf
set_option maxRecDepth 20000 in
theorem ggX2_writePhrase_X1_widthOfCodes : GoodIn wsX2_writePhrase wsX1_widthOfCodes := goodIn_r _ [18, 19, 20, 13, 21, 47, 48, 49, 50, 51, 52, 53, 54] (by decide +kernel) (by decide +kernel)
set_option maxRecDepth 20000 in
theorem gX2_writePhrase_X1_widthOfCodes : GoodIn wsX2_writePhrase (wsV RX2 104 RX1 yX1_widthOfCodes wsX1_widthOfCodes) := goodIn_app (goodIn_of _ (by decide +kernel)) ggX2_writePhrase_X1_widthOfCodes
set_option maxRecDepth 20000 in
theorem ggX2_writePhrase_X2_write : GoodIn wsX2_writePhrase wsX2_write := goodIn_r _ [26, 3, 27, 28, 29, 30, 15, 16, 17, 9, 18, 19, 20, 13, 21, 31, 32, 33, 34, 35, 36, 37, 38, 39, 40, 41, 42, 43, 44, 45, 46, 47, 48, 49, 50, 51, 52, 53, 54] (by decide +kernel) (by decide +kernel)
set_option maxRecDepth 20000 in
theorem gX2_writePhrase_X2_write : GoodIn wsX2_writePhrase (wsV RX2 117 RX2 yX2_write wsX2_write) := goodIn_app (goodIn_of _ (by decide +kernel)) ggX2_writePhrase_X2_write
theorem dX2_writePhrase_0 : decode cX2_writePhrase 0 = .ok (.aload_n 0, 1) := by decide +kernel
theorem dX2_writePhrase_1 : decode cX2_writePhrase 1 = .ok (.dup, 1) := by decide +kernel
theorem dX2_writePhrase_2 : decode cX2_writePhrase 2 = .ok (.getfield 63, 3) := by decide +kernel
theorem dX2_writePhrase_5 : decode cX2_writePhrase 5 = .ok (.iconst 1, 1) := by decide +kernel
theorem dX2_writePhrase_6 : decode cX2_writePhrase 6 = .ok (.iadd, 1) := by decide +kernel
theorem dX2_writePhrase_7 : decode cX2_writePhrase 7 = .ok (.putfield 63, 3) := by decide +kernel
theorem dX2_writePhrase_10 : decode cX2_writePhrase 10 = .ok (.aload_n 0, 1) := by decide +kernel
theorem dX2_writePhrase_11 : decode cX2_writePhrase 11 = .ok (.dup, 1) := by decide +kernel
theorem dX2_writePhrase_12 : decode cX2_writePhrase 12 = .ok (.getfield 66, 3) := by decide +kernel
theorem dX2_writePhrase_15 : decode cX2_writePhrase 15 = .ok (.aload_n 0, 1) := by decide +kernel
theorem dX2_writePhrase_16 : decode cX2_writePhrase 16 = .ok (.getfield 12, 3) := by decide +kernel
theorem dX2_writePhrase_19 : decode cX2_writePhrase 19 = .ok (.aload_n 0, 1) := by decide +kernel
theorem dX2_writePhrase_20 : decode cX2_writePhrase 20 = .ok (.getfield 18, 3) := by decide +kernel
theorem dX2_writePhrase_23 : decode cX2_writePhrase 23 = .ok (.invokevirtual 108, 3) := by decide +kernel
theorem dX2_writePhrase_26 : decode cX2_writePhrase 26 = .ok (.iadd, 1) := by decide +kernel
theorem dX2_writePhrase_27 : decode cX2_writePhrase 27 = .ok (.putfield 66, 3) := by decide +kernel
theorem dX2_writePhrase_30 : decode cX2_writePhrase 30 = .ok (.aload_n 0, 1) := by decide +kernel
theorem dX2_writePhrase_31 : decode cX2_writePhrase 31 = .ok (.dup, 1) := by decide +kernel
theorem dX2_writePhrase_32 : decode cX2_writePhrase 32 = .ok (.getfield 69, 3) := by decide +kernel
theorem dX2_writePhrase_35 : decode cX2_writePhrase 35 = .ok (.aload_n 0, 1) := by decide +kernel
theorem dX2_writePhrase_36 : decode cX2_writePhrase 36 = .ok (.getfield 12, 3) := by decide +kernel
theorem dX2_writePhrase_39 : decode cX2_writePhrase 39 = .ok (.invokevirtual 104, 3) := by decide +kernel
theorem dX2_writePhrase_42 : decode cX2_writePhrase 42 = .ok (.iadd, 1) := by decide +kernel
theorem dX2_writePhrase_43 : decode cX2_writePhrase 43 = .ok (.putfield 69, 3) := by decide +kernel
theorem dX2_writePhrase_46 : decode cX2_writePhrase 46 = .ok (.aload_n 0, 1) := by decide +kernel
theorem dX2_writePhrase_47 : decode cX2_writePhrase 47 = .ok (.aload_n 0, 1) := by decide +kernel
theorem dX2_writePhrase_48 : decode cX2_writePhrase 48 = .ok (.getfield 18, 3) := by decide +kernel
theorem dX2_writePhrase_51 : decode cX2_writePhrase 51 = .ok (.invokevirtual 117, 3) := by decide +kernel
theorem dX2_writePhrase_54 : decode cX2_writePhrase 54 = .ok (.return_, 1) := by decide +kernel
set_option maxRecDepth 20000 in
theorem ggX2_writeClear_X2_write : GoodIn wsX2_writeClear wsX2_write := goodIn_r _ [7, 1, 8, 9, 10, 11, 12, 13, 14, 15, 16, 17, 18, 19, 20, 21, 22, 43, 44, 45, 46, 47, 48, 49, 50, 51, 52, 53, 54, 55, 56, 57, 58, 59, 60, 61, 62, 63, 64] (by decide +kernel) (by decide +kernel)
set_option maxRecDepth 20000 in
theorem gX2_writeClear_X2_write : GoodIn wsX2_writeClear (wsV RX2 117 RX2 yX2_write wsX2_write) := goodIn_app (goodIn_of _ (by decide +kernel)) ggX2_writeClear_X2_write
set_option maxRecDepth 20000 in
theorem ggX2_writeClear_X2_forgetRecent : GoodIn wsX2_writeClear wsX2_forgetRecent := goodIn_r _ [26, 27, 28, 29, 43, 44, 45, 46, 47, 48, 49, 50, 51, 52, 53, 54, 55, 56] (by decide +kernel) (by decide +kernel)
set_option maxRecDepth 20000 in
theorem gX2_writeClear_X2_forgetRecent : GoodIn wsX2_writeClear (wsV RX2 60 RX2 yX2_forgetRecent wsX2_forgetRecent) := goodIn_app (goodIn_of _ (by decide +kernel)) ggX2_writeClear_X2_forgetRecent
set_option maxRecDepth 20000 in
theorem ggX2_writeClear_X1_keepFirstCodes : GoodIn wsX2_writeClear wsX1_keepFirstCodes := goodIn_r _ [33, 34, 17, 35, 36, 37, 15, 38, 39, 40, 41, 42, 57, 58, 59, 60, 61, 62, 63, 64] (by decide +kernel) (by decide +kernel)
set_option maxRecDepth 20000 in
theorem gX2_writeClear_X1_keepFirstCodes : GoodIn wsX2_writeClear (wsV RX2 45 RX1 yX1_keepFirstCodes wsX1_keepFirstCodes) := goodIn_app (goodIn_of _ (by decide +kernel)) ggX2_writeClear_X1_keepFirstCodes
theorem dX2_writeClear_0 : decode cX2_writeClear 0 = .ok (.aload_n 0, 1) := by decide +kernel
theorem dX2_writeClear_1 : decode cX2_writeClear 1 = .ok (.aload_n 0, 1) := by decide +kernel
theorem dX2_writeClear_2 : decode cX2_writeClear 2 = .ok (.getfield 12, 3) := by decide +kernel
theorem dX2_writeClear_5 : decode cX2_writeClear 5 = .ok (.getfield 121, 3) := by decide +kernel
theorem dX2_writeClear_8 : decode cX2_writeClear 8 = .ok (.invokevirtual 117, 3) := by decide +kernel
theorem dX2_writeClear_11 : decode cX2_writeClear 11 = .ok (.aload_n 0, 1) := by decide +kernel
theorem dX2_writeClear_12 : decode cX2_writeClear 12 = .ok (.dup, 1) := by decide +kernel
theorem dX2_writeClear_13 : decode cX2_writeClear 13 = .ok (.getfield 57, 3) := by decide +kernel
theorem dX2_writeClear_16 : decode cX2_writeClear 16 = .ok (.iconst 1, 1) := by decide +kernel
theorem dX2_writeClear_17 : decode cX2_writeClear 17 = .ok (.iadd, 1) := by decide +kernel
theorem dX2_writeClear_18 : decode cX2_writeClear 18 = .ok (.putfield 57, 3) := by decide +kernel
theorem dX2_writeClear_21 : decode cX2_writeClear 21 = .ok (.aload_n 0, 1) := by decide +kernel
theorem dX2_writeClear_22 : decode cX2_writeClear 22 = .ok (.invokevirtual 60, 3) := by decide +kernel
theorem dX2_writeClear_25 : decode cX2_writeClear 25 = .ok (.aload_n 0, 1) := by decide +kernel
theorem dX2_writeClear_26 : decode cX2_writeClear 26 = .ok (.getfield 12, 3) := by decide +kernel
theorem dX2_writeClear_29 : decode cX2_writeClear 29 = .ok (.invokevirtual 45, 3) := by decide +kernel
theorem dX2_writeClear_32 : decode cX2_writeClear 32 = .ok (.return_, 1) := by decide +kernel
set_option maxRecDepth 20000 in
theorem ggX2_write_X1_widthOfCodes : GoodIn wsX2_write wsX1_widthOfCodes := goodIn_r _ [10, 11, 12, 13, 14, 31, 32, 33, 34, 35, 36, 37, 38] (by decide +kernel) (by decide +kernel)
set_option maxRecDepth 20000 in
theorem gX2_write_X1_widthOfCodes : GoodIn wsX2_write (wsV RX2 104 RX1 yX1_widthOfCodes wsX1_widthOfCodes) := goodIn_app (goodIn_of _ (by decide +kernel)) ggX2_write_X1_widthOfCodes
set_option maxRecDepth 20000 in
theorem ggX2_write_X7_put : GoodIn wsX2_write wsX7_put := goodIn_r _ [16] (by decide +kernel) (by decide +kernel)
set_option maxRecDepth 20000 in
theorem gX2_write_X7_put_n84 : GoodIn wsX2_write (wsX7_put) := ggX2_write_X7_put
theorem dX2_write_0 : decode cX2_write 0 = .ok (.aload_n 0, 1) := by decide +kernel
theorem dX2_write_1 : decode cX2_write 1 = .ok (.getfield 12, 3) := by decide +kernel
theorem dX2_write_4 : decode cX2_write 4 = .ok (.invokevirtual 104, 3) := by decide +kernel
theorem dX2_write_7 : decode cX2_write 7 = .ok (.istore_n 2, 1) := by decide +kernel
theorem dX2_write_8 : decode cX2_write 8 = .ok (.aload_n 0, 1) := by decide +kernel
theorem dX2_write_9 : decode cX2_write 9 = .ok (.getfield 26, 3) := by decide +kernel
theorem dX2_write_12 : decode cX2_write 12 = .ok (.aload_n 0, 1) := by decide +kernel
theorem dX2_write_13 : decode cX2_write 13 = .ok (.getfield 51, 3) := by decide +kernel
theorem dX2_write_16 : decode cX2_write 16 = .ok (.iload_n 1, 1) := by decide +kernel
theorem dX2_write_17 : decode cX2_write 17 = .ok (.invokestatic 84, 3) := by decide +kernel
theorem dX2_write_20 : decode cX2_write 20 = .ok (.aload_n 0, 1) := by decide +kernel
theorem dX2_write_21 : decode cX2_write 21 = .ok (.getfield 29, 3) := by decide +kernel
theorem dX2_write_24 : decode cX2_write 24 = .ok (.aload_n 0, 1) := by decide +kernel
theorem dX2_write_25 : decode cX2_write 25 = .ok (.getfield 51, 3) := by decide +kernel
theorem dX2_write_28 : decode cX2_write 28 = .ok (.iload_n 2, 1) := by decide +kernel
theorem dX2_write_29 : decode cX2_write 29 = .ok (.invokestatic 84, 3) := by decide +kernel
theorem dX2_write_32 : decode cX2_write 32 = .ok (.aload_n 0, 1) := by decide +kernel
theorem dX2_write_33 : decode cX2_write 33 = .ok (.dup, 1) := by decide +kernel
theorem dX2_write_34 : decode cX2_write 34 = .ok (.getfield 51, 3) := by decide +kernel
theorem dX2_write_37 : decode cX2_write 37 = .ok (.iconst 1, 1) := by decide +kernel
theorem dX2_write_38 : decode cX2_write 38 = .ok (.iadd, 1) := by decide +kernel
theorem dX2_write_39 : decode cX2_write 39 = .ok (.putfield 51, 3) := by decide +kernel
theorem dX2_write_42 : decode cX2_write 42 = .ok (.aload_n 0, 1) := by decide +kernel
theorem dX2_write_43 : decode cX2_write 43 = .ok (.dup, 1) := by decide +kernel
theorem dX2_write_44 : decode cX2_write 44 = .ok (.getfield 54, 3) := by decide +kernel
theorem dX2_write_47 : decode cX2_write 47 = .ok (.iload_n 2, 1) := by decide +kernel
theorem dX2_write_48 : decode cX2_write 48 = .ok (.iadd, 1) := by decide +kernel
theorem dX2_write_49 : decode cX2_write 49 = .ok (.putfield 54, 3) := by decide +kernel
theorem dX2_write_52 : decode cX2_write 52 = .ok (.return_, 1) := by decide +kernel
set_option maxRecDepth 20000 in
theorem ggX2_covered_X1_lengthOf : GoodIn wsX2_covered wsX1_lengthOf := goodIn_r _ [8, 9, 10, 11, 12, 27, 28, 29, 30, 31, 32, 33, 34] (by decide +kernel) (by decide +kernel)
set_option maxRecDepth 20000 in
theorem gX2_covered_X1_lengthOf : GoodIn wsX2_covered (wsV RX2 108 RX1 yX1_lengthOf wsX1_lengthOf) := goodIn_app (goodIn_of _ (by decide +kernel)) ggX2_covered_X1_lengthOf
theorem dX2_covered_0 : decode cX2_covered 0 = .ok (.aload_n 0, 1) := by decide +kernel
theorem dX2_covered_1 : decode cX2_covered 1 = .ok (.getfield 18, 3) := by decide +kernel
theorem dX2_covered_4 : decode cX2_covered 4 = .ok (.iconst (-1), 1) := by decide +kernel
theorem dX2_covered_5 : decode cX2_covered 5 = .ok (.if_icmp .ne 10, 3) := by decide +kernel
theorem dX2_covered_8 : decode cX2_covered 8 = .ok (.aload_n 0, 1) := by decide +kernel
theorem dX2_covered_9 : decode cX2_covered 9 = .ok (.getfield 48, 3) := by decide +kernel
theorem dX2_covered_12 : decode cX2_covered 12 = .ok (.goto 19, 3) := by decide +kernel
theorem dX2_covered_15 : decode cX2_covered 15 = .ok (.aload_n 0, 1) := by decide +kernel
theorem dX2_covered_16 : decode cX2_covered 16 = .ok (.getfield 48, 3) := by decide +kernel
theorem dX2_covered_19 : decode cX2_covered 19 = .ok (.aload_n 0, 1) := by decide +kernel
theorem dX2_covered_20 : decode cX2_covered 20 = .ok (.getfield 12, 3) := by decide +kernel
theorem dX2_covered_23 : decode cX2_covered 23 = .ok (.aload_n 0, 1) := by decide +kernel
theorem dX2_covered_24 : decode cX2_covered 24 = .ok (.getfield 18, 3) := by decide +kernel
theorem dX2_covered_27 : decode cX2_covered 27 = .ok (.invokevirtual 108, 3) := by decide +kernel
theorem dX2_covered_30 : decode cX2_covered 30 = .ok (.isub, 1) := by decide +kernel
theorem dX2_covered_31 : decode cX2_covered 31 = .ok (.ireturn, 1) := by decide +kernel
set_option maxRecDepth 20000 in
theorem ggX2_countWritten_X7_at : GoodIn wsX2_countWritten wsX7_at := goodIn_r _ [5] (by decide +kernel) (by decide +kernel)
set_option maxRecDepth 20000 in
theorem gX2_countWritten_X7_at_n124 : GoodIn wsX2_countWritten (wsX7_at) := ggX2_countWritten_X7_at
theorem dX2_countWritten_0 : decode cX2_countWritten 0 = .ok (.iconst 0, 1) := by decide +kernel
theorem dX2_countWritten_1 : decode cX2_countWritten 1 = .ok (.istore_n 2, 1) := by decide +kernel
theorem dX2_countWritten_2 : decode cX2_countWritten 2 = .ok (.iconst 0, 1) := by decide +kernel
theorem dX2_countWritten_3 : decode cX2_countWritten 3 = .ok (.istore_n 3, 1) := by decide +kernel
theorem dX2_countWritten_4 : decode cX2_countWritten 4 = .ok (.iload_n 3, 1) := by decide +kernel
theorem dX2_countWritten_5 : decode cX2_countWritten 5 = .ok (.aload_n 0, 1) := by decide +kernel
theorem dX2_countWritten_6 : decode cX2_countWritten 6 = .ok (.getfield 51, 3) := by decide +kernel
theorem dX2_countWritten_9 : decode cX2_countWritten 9 = .ok (.if_icmp .ge 24, 3) := by decide +kernel
theorem dX2_countWritten_12 : decode cX2_countWritten 12 = .ok (.aload_n 0, 1) := by decide +kernel
theorem dX2_countWritten_13 : decode cX2_countWritten 13 = .ok (.getfield 26, 3) := by decide +kernel
theorem dX2_countWritten_16 : decode cX2_countWritten 16 = .ok (.iload_n 3, 1) := by decide +kernel
theorem dX2_countWritten_17 : decode cX2_countWritten 17 = .ok (.invokestatic 124, 3) := by decide +kernel
theorem dX2_countWritten_20 : decode cX2_countWritten 20 = .ok (.iload_n 1, 1) := by decide +kernel
theorem dX2_countWritten_21 : decode cX2_countWritten 21 = .ok (.if_icmp .ne 6, 3) := by decide +kernel
theorem dX2_countWritten_24 : decode cX2_countWritten 24 = .ok (.iinc 2 1, 3) := by decide +kernel
theorem dX2_countWritten_27 : decode cX2_countWritten 27 = .ok (.iinc 3 1, 3) := by decide +kernel
theorem dX2_countWritten_30 : decode cX2_countWritten 30 = .ok (.goto (-26), 3) := by decide +kernel
theorem dX2_countWritten_33 : decode cX2_countWritten 33 = .ok (.iload_n 2, 1) := by decide +kernel
theorem dX2_countWritten_34 : decode cX2_countWritten 34 = .ok (.ireturn, 1) := by decide +kernel
set_option maxRecDepth 20000 in
theorem ggX2_bitsFrom_X7_at : GoodIn wsX2_bitsFrom wsX7_at := goodIn_r _ [10] (by decide +kernel) (by decide +kernel)
set_option maxRecDepth 20000 in
theorem gX2_bitsFrom_X7_at_n124 : GoodIn wsX2_bitsFrom (wsX7_at) := ggX2_bitsFrom_X7_at
theorem dX2_bitsFrom_0 : decode cX2_bitsFrom 0 = .ok (.iconst 0, 1) := by decide +kernel
theorem dX2_bitsFrom_1 : decode cX2_bitsFrom 1 = .ok (.istore_n 3, 1) := by decide +kernel
theorem dX2_bitsFrom_2 : decode cX2_bitsFrom 2 = .ok (.iconst 0, 1) := by decide +kernel
theorem dX2_bitsFrom_3 : decode cX2_bitsFrom 3 = .ok (.istore 4, 2) := by decide +kernel
theorem dX2_bitsFrom_5 : decode cX2_bitsFrom 5 = .ok (.iconst 0, 1) := by decide +kernel
theorem dX2_bitsFrom_6 : decode cX2_bitsFrom 6 = .ok (.istore 5, 2) := by decide +kernel
theorem dX2_bitsFrom_8 : decode cX2_bitsFrom 8 = .ok (.iload 5, 2) := by decide +kernel
theorem dX2_bitsFrom_10 : decode cX2_bitsFrom 10 = .ok (.aload_n 0, 1) := by decide +kernel
theorem dX2_bitsFrom_11 : decode cX2_bitsFrom 11 = .ok (.getfield 51, 3) := by decide +kernel
theorem dX2_bitsFrom_14 : decode cX2_bitsFrom 14 = .ok (.if_icmp .ge 99, 3) := by decide +kernel
theorem dX2_bitsFrom_17 : decode cX2_bitsFrom 17 = .ok (.iload 4, 2) := by decide +kernel
theorem dX2_bitsFrom_19 : decode cX2_bitsFrom 19 = .ok (.iload_n 1, 1) := by decide +kernel
theorem dX2_bitsFrom_20 : decode cX2_bitsFrom 20 = .ok (.iload_n 2, 1) := by decide +kernel
theorem dX2_bitsFrom_21 : decode cX2_bitsFrom 21 = .ok (.iadd, 1) := by decide +kernel
theorem dX2_bitsFrom_22 : decode cX2_bitsFrom 22 = .ok (.if_icmp .ge 91, 3) := by decide +kernel
theorem dX2_bitsFrom_25 : decode cX2_bitsFrom 25 = .ok (.iload 4, 2) := by decide +kernel
theorem dX2_bitsFrom_27 : decode cX2_bitsFrom 27 = .ok (.istore 6, 2) := by decide +kernel
theorem dX2_bitsFrom_29 : decode cX2_bitsFrom 29 = .ok (.iload 4, 2) := by decide +kernel
theorem dX2_bitsFrom_31 : decode cX2_bitsFrom 31 = .ok (.aload_n 0, 1) := by decide +kernel
theorem dX2_bitsFrom_32 : decode cX2_bitsFrom 32 = .ok (.getfield 29, 3) := by decide +kernel
theorem dX2_bitsFrom_35 : decode cX2_bitsFrom 35 = .ok (.iload 5, 2) := by decide +kernel
theorem dX2_bitsFrom_37 : decode cX2_bitsFrom 37 = .ok (.invokestatic 124, 3) := by decide +kernel
theorem dX2_bitsFrom_40 : decode cX2_bitsFrom 40 = .ok (.iadd, 1) := by decide +kernel
theorem dX2_bitsFrom_41 : decode cX2_bitsFrom 41 = .ok (.istore 4, 2) := by decide +kernel
theorem dX2_bitsFrom_43 : decode cX2_bitsFrom 43 = .ok (.iload 6, 2) := by decide +kernel
theorem dX2_bitsFrom_45 : decode cX2_bitsFrom 45 = .ok (.iload_n 1, 1) := by decide +kernel
theorem dX2_bitsFrom_46 : decode cX2_bitsFrom 46 = .ok (.invokestatic 128, 3) := by decide +kernel
theorem dX2_bitsFrom_49 : decode cX2_bitsFrom 49 = .ok (.istore 7, 2) := by decide +kernel
theorem dX2_bitsFrom_51 : decode cX2_bitsFrom 51 = .ok (.iload 7, 2) := by decide +kernel
theorem dX2_bitsFrom_53 : decode cX2_bitsFrom 53 = .ok (.iload 4, 2) := by decide +kernel
theorem dX2_bitsFrom_55 : decode cX2_bitsFrom 55 = .ok (.if_icmp .ge 52, 3) := by decide +kernel
theorem dX2_bitsFrom_58 : decode cX2_bitsFrom 58 = .ok (.iload 7, 2) := by decide +kernel
theorem dX2_bitsFrom_60 : decode cX2_bitsFrom 60 = .ok (.iload_n 1, 1) := by decide +kernel
theorem dX2_bitsFrom_61 : decode cX2_bitsFrom 61 = .ok (.iload_n 2, 1) := by decide +kernel
theorem dX2_bitsFrom_62 : decode cX2_bitsFrom 62 = .ok (.iadd, 1) := by decide +kernel
theorem dX2_bitsFrom_63 : decode cX2_bitsFrom 63 = .ok (.if_icmp .ge 44, 3) := by decide +kernel
theorem dX2_bitsFrom_66 : decode cX2_bitsFrom 66 = .ok (.aload_n 0, 1) := by decide +kernel
theorem dX2_bitsFrom_67 : decode cX2_bitsFrom 67 = .ok (.getfield 26, 3) := by decide +kernel
theorem dX2_bitsFrom_70 : decode cX2_bitsFrom 70 = .ok (.iload 5, 2) := by decide +kernel
theorem dX2_bitsFrom_72 : decode cX2_bitsFrom 72 = .ok (.invokestatic 124, 3) := by decide +kernel
theorem dX2_bitsFrom_75 : decode cX2_bitsFrom 75 = .ok (.iload 4, 2) := by decide +kernel
theorem dX2_bitsFrom_77 : decode cX2_bitsFrom 77 = .ok (.iconst 1, 1) := by decide +kernel
theorem dX2_bitsFrom_78 : decode cX2_bitsFrom 78 = .ok (.isub, 1) := by decide +kernel
theorem dX2_bitsFrom_79 : decode cX2_bitsFrom 79 = .ok (.iload 7, 2) := by decide +kernel
theorem dX2_bitsFrom_81 : decode cX2_bitsFrom 81 = .ok (.isub, 1) := by decide +kernel
theorem dX2_bitsFrom_82 : decode cX2_bitsFrom 82 = .ok (.iushr, 1) := by decide +kernel
theorem dX2_bitsFrom_83 : decode cX2_bitsFrom 83 = .ok (.iconst 1, 1) := by decide +kernel
theorem dX2_bitsFrom_84 : decode cX2_bitsFrom 84 = .ok (.iand, 1) := by decide +kernel
theorem dX2_bitsFrom_85 : decode cX2_bitsFrom 85 = .ok (.istore 8, 2) := by decide +kernel
theorem dX2_bitsFrom_87 : decode cX2_bitsFrom 87 = .ok (.iload_n 3, 1) := by decide +kernel
theorem dX2_bitsFrom_88 : decode cX2_bitsFrom 88 = .ok (.iload 8, 2) := by decide +kernel
theorem dX2_bitsFrom_90 : decode cX2_bitsFrom 90 = .ok (.iload_n 1, 1) := by decide +kernel
theorem dX2_bitsFrom_91 : decode cX2_bitsFrom 91 = .ok (.iload_n 2, 1) := by decide +kernel
theorem dX2_bitsFrom_92 : decode cX2_bitsFrom 92 = .ok (.iadd, 1) := by decide +kernel
theorem dX2_bitsFrom_93 : decode cX2_bitsFrom 93 = .ok (.iconst 1, 1) := by decide +kernel
theorem dX2_bitsFrom_94 : decode cX2_bitsFrom 94 = .ok (.isub, 1) := by decide +kernel
theorem dX2_bitsFrom_95 : decode cX2_bitsFrom 95 = .ok (.iload 7, 2) := by decide +kernel
theorem dX2_bitsFrom_97 : decode cX2_bitsFrom 97 = .ok (.isub, 1) := by decide +kernel
theorem dX2_bitsFrom_98 : decode cX2_bitsFrom 98 = .ok (.ishl, 1) := by decide +kernel
theorem dX2_bitsFrom_99 : decode cX2_bitsFrom 99 = .ok (.ior, 1) := by decide +kernel
theorem dX2_bitsFrom_100 : decode cX2_bitsFrom 100 = .ok (.istore_n 3, 1) := by decide +kernel
theorem dX2_bitsFrom_101 : decode cX2_bitsFrom 101 = .ok (.iinc 7 1, 3) := by decide +kernel
theorem dX2_bitsFrom_104 : decode cX2_bitsFrom 104 = .ok (.goto (-53), 3) := by decide +kernel
theorem dX2_bitsFrom_107 : decode cX2_bitsFrom 107 = .ok (.iinc 5 1, 3) := by decide +kernel
theorem dX2_bitsFrom_110 : decode cX2_bitsFrom 110 = .ok (.goto (-102), 3) := by decide +kernel
theorem dX2_bitsFrom_113 : decode cX2_bitsFrom 113 = .ok (.iload_n 3, 1) := by decide +kernel
theorem dX2_bitsFrom_114 : decode cX2_bitsFrom 114 = .ok (.ireturn, 1) := by decide +kernel
set_option maxRecDepth 20000 in
theorem ggX2_copyFrom_X1_copyFrom : GoodIn wsX2_copyFrom wsX1_copyFrom := goodIn_r _ [19, 20, 21, 22, 23, 24, 25, 26, 27, 28, 29, 30, 31, 32, 33, 34, 35, 36, 37, 38, 53, 54, 55, 56, 57, 58, 59, 60] (by decide +kernel) (by decide +kernel)
set_option maxRecDepth 20000 in
theorem gX2_copyFrom_X1_copyFrom : GoodIn wsX2_copyFrom (wsV RX2 133 RX1 yX1_copyFrom wsX1_copyFrom) := goodIn_app (goodIn_of _ (by decide +kernel)) ggX2_copyFrom_X1_copyFrom
set_option maxRecDepth 20000 in
theorem ggX2_copyFrom_X7_copyRow : GoodIn wsX2_copyFrom wsX7_copyRow := goodIn_r _ [30, 31, 32, 33, 34, 35, 36, 37, 38] (by decide +kernel) (by decide +kernel)
set_option maxRecDepth 20000 in
theorem gX2_copyFrom_X7_copyRow_n137 : GoodIn wsX2_copyFrom (wsX7_copyRow) := ggX2_copyFrom_X7_copyRow
theorem dX2_copyFrom_0 : decode cX2_copyFrom 0 = .ok (.aload_n 0, 1) := by decide +kernel
theorem dX2_copyFrom_1 : decode cX2_copyFrom 1 = .ok (.getfield 12, 3) := by decide +kernel
theorem dX2_copyFrom_4 : decode cX2_copyFrom 4 = .ok (.aload_n 1, 1) := by decide +kernel
theorem dX2_copyFrom_5 : decode cX2_copyFrom 5 = .ok (.getfield 12, 3) := by decide +kernel
theorem dX2_copyFrom_8 : decode cX2_copyFrom 8 = .ok (.invokevirtual 133, 3) := by decide +kernel
theorem dX2_copyFrom_11 : decode cX2_copyFrom 11 = .ok (.aload_n 0, 1) := by decide +kernel
theorem dX2_copyFrom_12 : decode cX2_copyFrom 12 = .ok (.aload_n 1, 1) := by decide +kernel
theorem dX2_copyFrom_13 : decode cX2_copyFrom 13 = .ok (.getfield 36, 3) := by decide +kernel
theorem dX2_copyFrom_16 : decode cX2_copyFrom 16 = .ok (.putfield 36, 3) := by decide +kernel
theorem dX2_copyFrom_19 : decode cX2_copyFrom 19 = .ok (.aload_n 0, 1) := by decide +kernel
theorem dX2_copyFrom_20 : decode cX2_copyFrom 20 = .ok (.aload_n 1, 1) := by decide +kernel
theorem dX2_copyFrom_21 : decode cX2_copyFrom 21 = .ok (.getfield 39, 3) := by decide +kernel
theorem dX2_copyFrom_24 : decode cX2_copyFrom 24 = .ok (.putfield 39, 3) := by decide +kernel
theorem dX2_copyFrom_27 : decode cX2_copyFrom 27 = .ok (.aload_n 0, 1) := by decide +kernel
theorem dX2_copyFrom_28 : decode cX2_copyFrom 28 = .ok (.aload_n 1, 1) := by decide +kernel
theorem dX2_copyFrom_29 : decode cX2_copyFrom 29 = .ok (.getfield 18, 3) := by decide +kernel
theorem dX2_copyFrom_32 : decode cX2_copyFrom 32 = .ok (.putfield 18, 3) := by decide +kernel
theorem dX2_copyFrom_35 : decode cX2_copyFrom 35 = .ok (.aload_n 0, 1) := by decide +kernel
theorem dX2_copyFrom_36 : decode cX2_copyFrom 36 = .ok (.aload_n 1, 1) := by decide +kernel
theorem dX2_copyFrom_37 : decode cX2_copyFrom 37 = .ok (.getfield 48, 3) := by decide +kernel
theorem dX2_copyFrom_40 : decode cX2_copyFrom 40 = .ok (.putfield 48, 3) := by decide +kernel
theorem dX2_copyFrom_43 : decode cX2_copyFrom 43 = .ok (.aload_n 1, 1) := by decide +kernel
theorem dX2_copyFrom_44 : decode cX2_copyFrom 44 = .ok (.getfield 22, 3) := by decide +kernel
theorem dX2_copyFrom_47 : decode cX2_copyFrom 47 = .ok (.aload_n 0, 1) := by decide +kernel
theorem dX2_copyFrom_48 : decode cX2_copyFrom 48 = .ok (.getfield 22, 3) := by decide +kernel
theorem dX2_copyFrom_51 : decode cX2_copyFrom 51 = .ok (.aload_n 0, 1) := by decide +kernel
theorem dX2_copyFrom_52 : decode cX2_copyFrom 52 = .ok (.getfield 48, 3) := by decide +kernel
theorem dX2_copyFrom_55 : decode cX2_copyFrom 55 = .ok (.invokestatic 137, 3) := by decide +kernel
theorem dX2_copyFrom_58 : decode cX2_copyFrom 58 = .ok (.aload_n 0, 1) := by decide +kernel
theorem dX2_copyFrom_59 : decode cX2_copyFrom 59 = .ok (.aload_n 1, 1) := by decide +kernel
theorem dX2_copyFrom_60 : decode cX2_copyFrom 60 = .ok (.getfield 51, 3) := by decide +kernel
theorem dX2_copyFrom_63 : decode cX2_copyFrom 63 = .ok (.putfield 51, 3) := by decide +kernel
theorem dX2_copyFrom_66 : decode cX2_copyFrom 66 = .ok (.aload_n 1, 1) := by decide +kernel
theorem dX2_copyFrom_67 : decode cX2_copyFrom 67 = .ok (.getfield 26, 3) := by decide +kernel
theorem dX2_copyFrom_70 : decode cX2_copyFrom 70 = .ok (.aload_n 0, 1) := by decide +kernel
theorem dX2_copyFrom_71 : decode cX2_copyFrom 71 = .ok (.getfield 26, 3) := by decide +kernel
theorem dX2_copyFrom_74 : decode cX2_copyFrom 74 = .ok (.aload_n 0, 1) := by decide +kernel
theorem dX2_copyFrom_75 : decode cX2_copyFrom 75 = .ok (.getfield 51, 3) := by decide +kernel
theorem dX2_copyFrom_78 : decode cX2_copyFrom 78 = .ok (.invokestatic 137, 3) := by decide +kernel
theorem dX2_copyFrom_81 : decode cX2_copyFrom 81 = .ok (.aload_n 1, 1) := by decide +kernel
theorem dX2_copyFrom_82 : decode cX2_copyFrom 82 = .ok (.getfield 29, 3) := by decide +kernel
theorem dX2_copyFrom_85 : decode cX2_copyFrom 85 = .ok (.aload_n 0, 1) := by decide +kernel
theorem dX2_copyFrom_86 : decode cX2_copyFrom 86 = .ok (.getfield 29, 3) := by decide +kernel
theorem dX2_copyFrom_89 : decode cX2_copyFrom 89 = .ok (.aload_n 0, 1) := by decide +kernel
theorem dX2_copyFrom_90 : decode cX2_copyFrom 90 = .ok (.getfield 51, 3) := by decide +kernel
theorem dX2_copyFrom_93 : decode cX2_copyFrom 93 = .ok (.invokestatic 137, 3) := by decide +kernel
theorem dX2_copyFrom_96 : decode cX2_copyFrom 96 = .ok (.aload_n 0, 1) := by decide +kernel
theorem dX2_copyFrom_97 : decode cX2_copyFrom 97 = .ok (.aload_n 1, 1) := by decide +kernel
theorem dX2_copyFrom_98 : decode cX2_copyFrom 98 = .ok (.getfield 54, 3) := by decide +kernel
theorem dX2_copyFrom_101 : decode cX2_copyFrom 101 = .ok (.putfield 54, 3) := by decide +kernel
theorem dX2_copyFrom_104 : decode cX2_copyFrom 104 = .ok (.aload_n 0, 1) := by decide +kernel
theorem dX2_copyFrom_105 : decode cX2_copyFrom 105 = .ok (.aload_n 1, 1) := by decide +kernel
theorem dX2_copyFrom_106 : decode cX2_copyFrom 106 = .ok (.getfield 57, 3) := by decide +kernel
theorem dX2_copyFrom_109 : decode cX2_copyFrom 109 = .ok (.putfield 57, 3) := by decide +kernel
theorem dX2_copyFrom_112 : decode cX2_copyFrom 112 = .ok (.aload_n 0, 1) := by decide +kernel
theorem dX2_copyFrom_113 : decode cX2_copyFrom 113 = .ok (.aload_n 1, 1) := by decide +kernel
theorem dX2_copyFrom_114 : decode cX2_copyFrom 114 = .ok (.getfield 63, 3) := by decide +kernel
theorem dX2_copyFrom_117 : decode cX2_copyFrom 117 = .ok (.putfield 63, 3) := by decide +kernel
theorem dX2_copyFrom_120 : decode cX2_copyFrom 120 = .ok (.aload_n 0, 1) := by decide +kernel
theorem dX2_copyFrom_121 : decode cX2_copyFrom 121 = .ok (.aload_n 1, 1) := by decide +kernel
theorem dX2_copyFrom_122 : decode cX2_copyFrom 122 = .ok (.getfield 66, 3) := by decide +kernel
theorem dX2_copyFrom_125 : decode cX2_copyFrom 125 = .ok (.putfield 66, 3) := by decide +kernel
theorem dX2_copyFrom_128 : decode cX2_copyFrom 128 = .ok (.aload_n 0, 1) := by decide +kernel
theorem dX2_copyFrom_129 : decode cX2_copyFrom 129 = .ok (.aload_n 1, 1) := by decide +kernel
theorem dX2_copyFrom_130 : decode cX2_copyFrom 130 = .ok (.getfield 69, 3) := by decide +kernel
theorem dX2_copyFrom_133 : decode cX2_copyFrom 133 = .ok (.putfield 69, 3) := by decide +kernel
theorem dX2_copyFrom_136 : decode cX2_copyFrom 136 = .ok (.return_, 1) := by decide +kernel
set_option maxRecDepth 20000 in
theorem ggX3_init_X2_init : GoodIn wsX3_init wsX2_init := goodIn_r _ [9, 10, 2, 3, 11, 12, 13, 14, 15, 16, 17, 18, 19, 20, 21, 22, 23, 24, 25, 26, 27, 46, 47, 48, 49, 50, 51, 52, 53, 32, 33, 34, 35, 36, 37, 38, 39, 40, 41, 42, 43, 44, 45] (by decide +kernel) (by decide +kernel)
set_option maxRecDepth 20000 in
theorem gX3_init_X2_init_n17 : GoodIn wsX3_init (wsX2_init) := ggX3_init_X2_init
theorem dX3_init_0 : decode cX3_init 0 = .ok (.aload_n 0, 1) := by decide +kernel
theorem dX3_init_1 : decode cX3_init 1 = .ok (.invokespecial 3, 3) := by decide +kernel
theorem dX3_init_4 : decode cX3_init 4 = .ok (.aload_n 0, 1) := by decide +kernel
theorem dX3_init_5 : decode cX3_init 5 = .ok (.bipush 10, 2) := by decide +kernel
theorem dX3_init_7 : decode cX3_init 7 = .ok (.anewarray 9, 3) := by decide +kernel
theorem dX3_init_10 : decode cX3_init 10 = .ok (.putfield 11, 3) := by decide +kernel
theorem dX3_init_13 : decode cX3_init 13 = .ok (.iconst 0, 1) := by decide +kernel
theorem dX3_init_14 : decode cX3_init 14 = .ok (.istore_n 1, 1) := by decide +kernel
theorem dX3_init_15 : decode cX3_init 15 = .ok (.iload_n 1, 1) := by decide +kernel
theorem dX3_init_16 : decode cX3_init 16 = .ok (.aload_n 0, 1) := by decide +kernel
theorem dX3_init_17 : decode cX3_init 17 = .ok (.getfield 11, 3) := by decide +kernel
theorem dX3_init_20 : decode cX3_init 20 = .ok (.arraylength, 1) := by decide +kernel
theorem dX3_init_21 : decode cX3_init 21 = .ok (.if_icmp .ge 22, 3) := by decide +kernel
theorem dX3_init_24 : decode cX3_init 24 = .ok (.aload_n 0, 1) := by decide +kernel
theorem dX3_init_25 : decode cX3_init 25 = .ok (.getfield 11, 3) := by decide +kernel
theorem dX3_init_28 : decode cX3_init 28 = .ok (.iload_n 1, 1) := by decide +kernel
theorem dX3_init_29 : decode cX3_init 29 = .ok (.new 9, 3) := by decide +kernel
theorem dX3_init_32 : decode cX3_init 32 = .ok (.dup, 1) := by decide +kernel
theorem dX3_init_33 : decode cX3_init 33 = .ok (.invokespecial 17, 3) := by decide +kernel
theorem dX3_init_36 : decode cX3_init 36 = .ok (.aastore, 1) := by decide +kernel
theorem dX3_init_37 : decode cX3_init 37 = .ok (.iinc 1 1, 3) := by decide +kernel
theorem dX3_init_40 : decode cX3_init 40 = .ok (.goto (-25), 3) := by decide +kernel
theorem dX3_init_43 : decode cX3_init 43 = .ok (.return_, 1) := by decide +kernel
set_option maxRecDepth 20000 in
theorem ggX3_saveIn_X3_copyTo : GoodIn wsX3_saveIn wsX3_copyTo := goodIn_r _ [6, 7, 8, 9, 5, 10, 11, 12, 13, 14, 15, 16, 17, 18, 19, 20, 21, 22, 23, 24, 25, 26, 27, 28, 29, 30, 31, 32, 33, 34, 35, 36, 37, 38, 39, 40, 41, 42, 43, 44, 45, 46, 47, 48, 49, 50, 51, 52, 53, 54, 55, 56, 57, 58, 59, 60, 61, 62, 63, 64, 65, 66, 67, 68, 69, 70, 71, 72, 73, 74, 75, 76, 77, 78, 79, 80] (by decide +kernel) (by decide +kernel)
set_option maxRecDepth 20000 in
theorem gX3_saveIn_X3_copyTo : GoodIn wsX3_saveIn (wsV RX3 18 RX3 yX3_copyTo wsX3_copyTo) := goodIn_app (goodIn_of _ (by decide +kernel)) ggX3_saveIn_X3_copyTo
theorem dX3_saveIn_0 : decode cX3_saveIn 0 = .ok (.aload_n 0, 1) := by decide +kernel
theorem dX3_saveIn_1 : decode cX3_saveIn 1 = .ok (.iload_n 1, 1) := by decide +kernel
theorem dX3_saveIn_2 : decode cX3_saveIn 2 = .ok (.aload_n 2, 1) := by decide +kernel
theorem dX3_saveIn_3 : decode cX3_saveIn 3 = .ok (.invokevirtual 18, 3) := by decide +kernel
theorem dX3_saveIn_6 : decode cX3_saveIn 6 = .ok (.aload_n 0, 1) := by decide +kernel
theorem dX3_saveIn_7 : decode cX3_saveIn 7 = .ok (.dup, 1) := by decide +kernel
theorem dX3_saveIn_8 : decode cX3_saveIn 8 = .ok (.getfield 22, 3) := by decide +kernel
theorem dX3_saveIn_11 : decode cX3_saveIn 11 = .ok (.iconst 1, 1) := by decide +kernel
theorem dX3_saveIn_12 : decode cX3_saveIn 12 = .ok (.iload_n 1, 1) := by decide +kernel
theorem dX3_saveIn_13 : decode cX3_saveIn 13 = .ok (.ishl, 1) := by decide +kernel
theorem dX3_saveIn_14 : decode cX3_saveIn 14 = .ok (.ior, 1) := by decide +kernel
theorem dX3_saveIn_15 : decode cX3_saveIn 15 = .ok (.putfield 22, 3) := by decide +kernel
theorem dX3_saveIn_18 : decode cX3_saveIn 18 = .ok (.return_, 1) := by decide +kernel
theorem dX3_isSaved_0 : decode cX3_isSaved 0 = .ok (.aload_n 0, 1) := by decide +kernel
theorem dX3_isSaved_1 : decode cX3_isSaved 1 = .ok (.getfield 22, 3) := by decide +kernel
theorem dX3_isSaved_4 : decode cX3_isSaved 4 = .ok (.iload_n 1, 1) := by decide +kernel
theorem dX3_isSaved_5 : decode cX3_isSaved 5 = .ok (.iushr, 1) := by decide +kernel
theorem dX3_isSaved_6 : decode cX3_isSaved 6 = .ok (.iconst 1, 1) := by decide +kernel
theorem dX3_isSaved_7 : decode cX3_isSaved 7 = .ok (.iand, 1) := by decide +kernel
theorem dX3_isSaved_8 : decode cX3_isSaved 8 = .ok (.iconst 1, 1) := by decide +kernel
theorem dX3_isSaved_9 : decode cX3_isSaved 9 = .ok (.if_icmp .ne 7, 3) := by decide +kernel
theorem dX3_isSaved_12 : decode cX3_isSaved 12 = .ok (.iconst 1, 1) := by decide +kernel
theorem dX3_isSaved_13 : decode cX3_isSaved 13 = .ok (.goto 4, 3) := by decide +kernel
theorem dX3_isSaved_16 : decode cX3_isSaved 16 = .ok (.iconst 0, 1) := by decide +kernel
theorem dX3_isSaved_17 : decode cX3_isSaved 17 = .ok (.ireturn, 1) := by decide +kernel
set_option maxRecDepth 20000 in
theorem ggX3_fetchSaved_X3_copyBack : GoodIn wsX3_fetchSaved wsX3_copyBack := goodIn_r _ [5, 6, 7, 8, 4, 9, 10, 11, 12, 13, 14, 15, 16, 17, 18, 19, 20, 21, 22, 23, 24, 25, 26, 27, 28, 29, 30, 31, 32, 33, 34, 35, 36, 37, 38, 39, 40, 41, 42, 43, 44, 45, 46, 47, 48, 49, 50, 51, 52, 53, 54, 55, 56, 57, 58, 59, 60, 61, 62, 63, 64, 65, 66, 67, 68, 69, 70, 71, 72, 73, 74, 75, 76, 77, 78, 79] (by decide +kernel) (by decide +kernel)
set_option maxRecDepth 20000 in
theorem gX3_fetchSaved_X3_copyBack : GoodIn wsX3_fetchSaved (wsV RX3 26 RX3 yX3_copyBack wsX3_copyBack) := goodIn_app (goodIn_of _ (by decide +kernel)) ggX3_fetchSaved_X3_copyBack
theorem dX3_fetchSaved_0 : decode cX3_fetchSaved 0 = .ok (.aload_n 0, 1) := by decide +kernel
theorem dX3_fetchSaved_1 : decode cX3_fetchSaved 1 = .ok (.iload_n 1, 1) := by decide +kernel
theorem dX3_fetchSaved_2 : decode cX3_fetchSaved 2 = .ok (.aload_n 2, 1) := by decide +kernel
theorem dX3_fetchSaved_3 : decode cX3_fetchSaved 3 = .ok (.invokevirtual 26, 3) := by decide +kernel
theorem dX3_fetchSaved_6 : decode cX3_fetchSaved 6 = .ok (.return_, 1) := by decide +kernel
set_option maxRecDepth 20000 in
theorem ggX3_remember_X3_copyTo : GoodIn wsX3_remember wsX3_copyTo := goodIn_r _ [11, 12, 13, 14, 10, 15, 16, 17, 18, 19, 20, 21, 22, 23, 24, 25, 26, 27, 28, 29, 30, 31, 32, 33, 34, 35, 36, 37, 38, 39, 40, 41, 42, 43, 44, 45, 46, 47, 48, 49, 50, 51, 52, 4, 5, 6, 53, 54, 55, 56, 57, 58, 59, 60, 61, 62, 63, 64, 65, 66, 67, 68, 69, 70, 71, 72, 73, 74, 75, 76, 77, 78, 79, 80, 81, 82] (by decide +kernel) (by decide +kernel)
set_option maxRecDepth 20000 in
theorem gX3_remember_X3_copyTo : GoodIn wsX3_remember (wsV RX3 18 RX3 yX3_copyTo wsX3_copyTo) := goodIn_app (goodIn_of _ (by decide +kernel)) ggX3_remember_X3_copyTo
theorem dX3_remember_0 : decode cX3_remember 0 = .ok (.aload_n 0, 1) := by decide +kernel
theorem dX3_remember_1 : decode cX3_remember 1 = .ok (.iconst 2, 1) := by decide +kernel
theorem dX3_remember_2 : decode cX3_remember 2 = .ok (.aload_n 0, 1) := by decide +kernel
theorem dX3_remember_3 : decode cX3_remember 3 = .ok (.getfield 29, 3) := by decide +kernel
theorem dX3_remember_6 : decode cX3_remember 6 = .ok (.iadd, 1) := by decide +kernel
theorem dX3_remember_7 : decode cX3_remember 7 = .ok (.aload_n 1, 1) := by decide +kernel
theorem dX3_remember_8 : decode cX3_remember 8 = .ok (.invokevirtual 18, 3) := by decide +kernel
theorem dX3_remember_11 : decode cX3_remember 11 = .ok (.aload_n 0, 1) := by decide +kernel
theorem dX3_remember_12 : decode cX3_remember 12 = .ok (.aload_n 0, 1) := by decide +kernel
theorem dX3_remember_13 : decode cX3_remember 13 = .ok (.getfield 29, 3) := by decide +kernel
theorem dX3_remember_16 : decode cX3_remember 16 = .ok (.iconst 1, 1) := by decide +kernel
theorem dX3_remember_17 : decode cX3_remember 17 = .ok (.iadd, 1) := by decide +kernel
theorem dX3_remember_18 : decode cX3_remember 18 = .ok (.bipush 8, 2) := by decide +kernel
theorem dX3_remember_20 : decode cX3_remember 20 = .ok (.if_icmp .ge 12, 3) := by decide +kernel
theorem dX3_remember_23 : decode cX3_remember 23 = .ok (.aload_n 0, 1) := by decide +kernel
theorem dX3_remember_24 : decode cX3_remember 24 = .ok (.getfield 29, 3) := by decide +kernel
theorem dX3_remember_27 : decode cX3_remember 27 = .ok (.iconst 1, 1) := by decide +kernel
theorem dX3_remember_28 : decode cX3_remember 28 = .ok (.iadd, 1) := by decide +kernel
theorem dX3_remember_29 : decode cX3_remember 29 = .ok (.goto 4, 3) := by decide +kernel
theorem dX3_remember_32 : decode cX3_remember 32 = .ok (.iconst 0, 1) := by decide +kernel
theorem dX3_remember_33 : decode cX3_remember 33 = .ok (.putfield 29, 3) := by decide +kernel
theorem dX3_remember_36 : decode cX3_remember 36 = .ok (.aload_n 0, 1) := by decide +kernel
theorem dX3_remember_37 : decode cX3_remember 37 = .ok (.aload_n 0, 1) := by decide +kernel
theorem dX3_remember_38 : decode cX3_remember 38 = .ok (.getfield 32, 3) := by decide +kernel
theorem dX3_remember_41 : decode cX3_remember 41 = .ok (.iconst 1, 1) := by decide +kernel
theorem dX3_remember_42 : decode cX3_remember 42 = .ok (.iadd, 1) := by decide +kernel
theorem dX3_remember_43 : decode cX3_remember 43 = .ok (.bipush 8, 2) := by decide +kernel
theorem dX3_remember_45 : decode cX3_remember 45 = .ok (.invokestatic 35, 3) := by decide +kernel
theorem dX3_remember_48 : decode cX3_remember 48 = .ok (.putfield 32, 3) := by decide +kernel
theorem dX3_remember_51 : decode cX3_remember 51 = .ok (.return_, 1) := by decide +kernel
set_option maxRecDepth 20000 in
theorem ggX3_stepBack_X3_copyBack : GoodIn wsX3_stepBack wsX3_copyBack := goodIn_r _ [7, 8, 9, 10, 6, 11, 12, 13, 14, 15, 16, 17, 18, 19, 20, 21, 22, 23, 24, 25, 26, 27, 28, 29, 30, 31, 32, 33, 34, 35, 36, 37, 38, 39, 40, 41, 42, 43, 44, 45, 46, 47, 48, 49, 50, 51, 52, 53, 54, 55, 56, 57, 58, 59, 60, 61, 62, 63, 64, 65, 66, 67, 68, 69, 70, 71, 72, 73, 74, 75, 76, 77, 78, 79, 80, 81] (by decide +kernel) (by decide +kernel)
set_option maxRecDepth 20000 in
theorem gX3_stepBack_X3_copyBack : GoodIn wsX3_stepBack (wsV RX3 26 RX3 yX3_copyBack wsX3_copyBack) := goodIn_app (goodIn_of _ (by decide +kernel)) ggX3_stepBack_X3_copyBack
theorem dX3_stepBack_0 : decode cX3_stepBack 0 = .ok (.aload_n 0, 1) := by decide +kernel
theorem dX3_stepBack_1 : decode cX3_stepBack 1 = .ok (.aload_n 0, 1) := by decide +kernel
theorem dX3_stepBack_2 : decode cX3_stepBack 2 = .ok (.getfield 29, 3) := by decide +kernel
theorem dX3_stepBack_5 : decode cX3_stepBack 5 = .ok (.ifCond .le 12, 3) := by decide +kernel
theorem dX3_stepBack_8 : decode cX3_stepBack 8 = .ok (.aload_n 0, 1) := by decide +kernel
theorem dX3_stepBack_9 : decode cX3_stepBack 9 = .ok (.getfield 29, 3) := by decide +kernel
theorem dX3_stepBack_12 : decode cX3_stepBack 12 = .ok (.iconst 1, 1) := by decide +kernel
theorem dX3_stepBack_13 : decode cX3_stepBack 13 = .ok (.isub, 1) := by decide +kernel
theorem dX3_stepBack_14 : decode cX3_stepBack 14 = .ok (.goto 5, 3) := by decide +kernel
theorem dX3_stepBack_17 : decode cX3_stepBack 17 = .ok (.bipush 7, 2) := by decide +kernel
theorem dX3_stepBack_19 : decode cX3_stepBack 19 = .ok (.putfield 29, 3) := by decide +kernel
theorem dX3_stepBack_22 : decode cX3_stepBack 22 = .ok (.aload_n 0, 1) := by decide +kernel
theorem dX3_stepBack_23 : decode cX3_stepBack 23 = .ok (.dup, 1) := by decide +kernel
theorem dX3_stepBack_24 : decode cX3_stepBack 24 = .ok (.getfield 32, 3) := by decide +kernel
theorem dX3_stepBack_27 : decode cX3_stepBack 27 = .ok (.iconst 1, 1) := by decide +kernel
theorem dX3_stepBack_28 : decode cX3_stepBack 28 = .ok (.isub, 1) := by decide +kernel
theorem dX3_stepBack_29 : decode cX3_stepBack 29 = .ok (.putfield 32, 3) := by decide +kernel
theorem dX3_stepBack_32 : decode cX3_stepBack 32 = .ok (.aload_n 0, 1) := by decide +kernel
theorem dX3_stepBack_33 : decode cX3_stepBack 33 = .ok (.iconst 2, 1) := by decide +kernel
theorem dX3_stepBack_34 : decode cX3_stepBack 34 = .ok (.aload_n 0, 1) := by decide +kernel
theorem dX3_stepBack_35 : decode cX3_stepBack 35 = .ok (.getfield 29, 3) := by decide +kernel
theorem dX3_stepBack_38 : decode cX3_stepBack 38 = .ok (.iadd, 1) := by decide +kernel
theorem dX3_stepBack_39 : decode cX3_stepBack 39 = .ok (.aload_n 1, 1) := by decide +kernel
theorem dX3_stepBack_40 : decode cX3_stepBack 40 = .ok (.invokevirtual 26, 3) := by decide +kernel
theorem dX3_stepBack_43 : decode cX3_stepBack 43 = .ok (.return_, 1) := by decide +kernel
theorem dX3_forget_0 : decode cX3_forget 0 = .ok (.aload_n 0, 1) := by decide +kernel
theorem dX3_forget_1 : decode cX3_forget 1 = .ok (.iconst 0, 1) := by decide +kernel
theorem dX3_forget_2 : decode cX3_forget 2 = .ok (.putfield 22, 3) := by decide +kernel
theorem dX3_forget_5 : decode cX3_forget 5 = .ok (.aload_n 0, 1) := by decide +kernel
theorem dX3_forget_6 : decode cX3_forget 6 = .ok (.iconst 0, 1) := by decide +kernel
theorem dX3_forget_7 : decode cX3_forget 7 = .ok (.putfield 32, 3) := by decide +kernel
theorem dX3_forget_10 : decode cX3_forget 10 = .ok (.return_, 1) := by decide +kernel
set_option maxRecDepth 20000 in
theorem ggX3_copyTo_X3_stateAt : GoodIn wsX3_copyTo wsX3_stateAt := goodIn_r _ [5, 6, 50, 51, 52, 53] (by decide +kernel) (by decide +kernel)
set_option maxRecDepth 20000 in
theorem gX3_copyTo_X3_stateAt : GoodIn wsX3_copyTo (wsV RX3 41 RX3 yX3_stateAt wsX3_stateAt) := goodIn_app (goodIn_of _ (by decide +kernel)) ggX3_copyTo_X3_stateAt
set_option maxRecDepth 20000 in
theorem ggX3_copyTo_X2_copyFrom : GoodIn wsX3_copyTo wsX2_copyFrom := goodIn_r _ [11, 12, 13, 14, 15, 16, 17, 18, 19, 20, 21, 22, 23, 24, 25, 26, 27, 28, 29, 30, 31, 32, 33, 34, 35, 36, 37, 38, 39, 40, 41, 42, 43, 44, 45, 46, 47, 48, 49, 54, 55, 56, 57, 58, 59, 60, 61, 62, 63, 64, 65, 66, 67, 68, 69, 70, 71, 72, 73, 74, 75] (by decide +kernel) (by decide +kernel)
set_option maxRecDepth 20000 in
theorem gX3_copyTo_X2_copyFrom : GoodIn wsX3_copyTo (wsV RX3 45 RX2 yX2_copyFrom wsX2_copyFrom) := goodIn_app (goodIn_of _ (by decide +kernel)) ggX3_copyTo_X2_copyFrom
theorem dX3_copyTo_0 : decode cX3_copyTo 0 = .ok (.aload_n 0, 1) := by decide +kernel
theorem dX3_copyTo_1 : decode cX3_copyTo 1 = .ok (.iload_n 1, 1) := by decide +kernel
theorem dX3_copyTo_2 : decode cX3_copyTo 2 = .ok (.invokevirtual 41, 3) := by decide +kernel
theorem dX3_copyTo_5 : decode cX3_copyTo 5 = .ok (.astore_n 3, 1) := by decide +kernel
theorem dX3_copyTo_6 : decode cX3_copyTo 6 = .ok (.aload_n 3, 1) := by decide +kernel
theorem dX3_copyTo_7 : decode cX3_copyTo 7 = .ok (.ifnull 8, 3) := by decide +kernel
theorem dX3_copyTo_10 : decode cX3_copyTo 10 = .ok (.aload_n 3, 1) := by decide +kernel
theorem dX3_copyTo_11 : decode cX3_copyTo 11 = .ok (.aload_n 2, 1) := by decide +kernel
theorem dX3_copyTo_12 : decode cX3_copyTo 12 = .ok (.invokevirtual 45, 3) := by decide +kernel
theorem dX3_copyTo_15 : decode cX3_copyTo 15 = .ok (.return_, 1) := by decide +kernel
set_option maxRecDepth 20000 in
theorem ggX3_copyBack_X3_stateAt : GoodIn wsX3_copyBack wsX3_stateAt := goodIn_r _ [5, 6, 50, 51, 52, 53] (by decide +kernel) (by decide +kernel)
set_option maxRecDepth 20000 in
theorem gX3_copyBack_X3_stateAt : GoodIn wsX3_copyBack (wsV RX3 41 RX3 yX3_stateAt wsX3_stateAt) := goodIn_app (goodIn_of _ (by decide +kernel)) ggX3_copyBack_X3_stateAt
set_option maxRecDepth 20000 in
theorem ggX3_copyBack_X2_copyFrom : GoodIn wsX3_copyBack wsX2_copyFrom := goodIn_r _ [11, 12, 13, 14, 15, 16, 17, 18, 19, 20, 21, 22, 23, 24, 25, 26, 27, 28, 29, 30, 31, 32, 33, 34, 35, 36, 37, 38, 39, 40, 41, 42, 43, 44, 45, 46, 47, 48, 49, 54, 55, 56, 57, 58, 59, 60, 61, 62, 63, 64, 65, 66, 67, 68, 69, 70, 71, 72, 73, 74, 75] (by decide +kernel) (by decide +kernel)
set_option maxRecDepth 20000 in
theorem gX3_copyBack_X2_copyFrom : GoodIn wsX3_copyBack (wsV RX3 45 RX2 yX2_copyFrom wsX2_copyFrom) := goodIn_app (goodIn_of _ (by decide +kernel)) ggX3_copyBack_X2_copyFrom
theorem dX3_copyBack_0 : decode cX3_copyBack 0 = .ok (.aload_n 0, 1) := by decide +kernel
theorem dX3_copyBack_1 : decode cX3_copyBack 1 = .ok (.iload_n 1, 1) := by decide +kernel
theorem dX3_copyBack_2 : decode cX3_copyBack 2 = .ok (.invokevirtual 41, 3) := by decide +kernel
theorem dX3_copyBack_5 : decode cX3_copyBack 5 = .ok (.astore_n 3, 1) := by decide +kernel
theorem dX3_copyBack_6 : decode cX3_copyBack 6 = .ok (.aload_n 3, 1) := by decide +kernel
theorem dX3_copyBack_7 : decode cX3_copyBack 7 = .ok (.ifnull 8, 3) := by decide +kernel
theorem dX3_copyBack_10 : decode cX3_copyBack 10 = .ok (.aload_n 2, 1) := by decide +kernel
theorem dX3_copyBack_11 : decode cX3_copyBack 11 = .ok (.aload_n 3, 1) := by decide +kernel
theorem dX3_copyBack_12 : decode cX3_copyBack 12 = .ok (.invokevirtual 45, 3) := by decide +kernel
theorem dX3_copyBack_15 : decode cX3_copyBack 15 = .ok (.return_, 1) := by decide +kernel
theorem dX3_stateAt_0 : decode cX3_stateAt 0 = .ok (.iload_n 1, 1) := by decide +kernel
theorem dX3_stateAt_1 : decode cX3_stateAt 1 = .ok (.ifCond .lt 21, 3) := by decide +kernel
theorem dX3_stateAt_4 : decode cX3_stateAt 4 = .ok (.iload_n 1, 1) := by decide +kernel
theorem dX3_stateAt_5 : decode cX3_stateAt 5 = .ok (.aload_n 0, 1) := by decide +kernel
theorem dX3_stateAt_6 : decode cX3_stateAt 6 = .ok (.getfield 11, 3) := by decide +kernel
theorem dX3_stateAt_9 : decode cX3_stateAt 9 = .ok (.arraylength, 1) := by decide +kernel
theorem dX3_stateAt_10 : decode cX3_stateAt 10 = .ok (.if_icmp .ge 12, 3) := by decide +kernel
theorem dX3_stateAt_13 : decode cX3_stateAt 13 = .ok (.aload_n 0, 1) := by decide +kernel
theorem dX3_stateAt_14 : decode cX3_stateAt 14 = .ok (.getfield 11, 3) := by decide +kernel
theorem dX3_stateAt_17 : decode cX3_stateAt 17 = .ok (.iload_n 1, 1) := by decide +kernel
theorem dX3_stateAt_18 : decode cX3_stateAt 18 = .ok (.aaload, 1) := by decide +kernel
theorem dX3_stateAt_19 : decode cX3_stateAt 19 = .ok (.goto 4, 3) := by decide +kernel
theorem dX3_stateAt_22 : decode cX3_stateAt 22 = .ok (.aconst_null, 1) := by decide +kernel
theorem dX3_stateAt_23 : decode cX3_stateAt 23 = .ok (.areturn, 1) := by decide +kernel
theorem dX4_init_0 : decode cX4_init 0 = .ok (.aload_n 0, 1) := by decide +kernel
theorem dX4_init_1 : decode cX4_init 1 = .ok (.invokespecial 3, 3) := by decide +kernel
theorem dX4_init_4 : decode cX4_init 4 = .ok (.aload_n 0, 1) := by decide +kernel
theorem dX4_init_5 : decode cX4_init 5 = .ok (.sipush 400, 3) := by decide +kernel
theorem dX4_init_8 : decode cX4_init 8 = .ok (.newarray .int, 2) := by decide +kernel
theorem dX4_init_10 : decode cX4_init 10 = .ok (.putfield 9, 3) := by decide +kernel
theorem dX4_init_13 : decode cX4_init 13 = .ok (.return_, 1) := by decide +kernel
set_option maxRecDepth 20000 in
theorem ggX4_readSetup_X4_readSizes : GoodIn wsX4_readSetup wsX4_readSizes := goodIn_r _ [6, 7, 8, 9, 10, 11, 12, 13, 14, 15, 16, 17, 18, 19, 20, 21, 22, 23, 24, 25, 26, 27, 28, 29, 30, 31, 32, 33, 34, 35, 36, 37, 38, 39, 40, 41, 42, 43, 44, 45, 46, 47, 48, 49, 50, 51, 52, 53, 54, 55, 56, 57, 58, 59, 60, 61, 62, 63, 64, 65, 66, 67, 68, 69, 70, 71, 72, 73, 74, 75, 76, 77, 78, 79, 80, 81, 82, 83, 84, 85, 86, 87, 88, 89, 90, 91, 92, 93, 94, 95, 96, 97, 98, 99, 100, 127, 128, 129, 130, 131, 132, 133, 134, 135, 136, 137] (by decide +kernel) (by decide +kernel)
set_option maxRecDepth 20000 in
theorem gX4_readSetup_X4_readSizes : GoodIn wsX4_readSetup (wsV RX4 19 RX4 yX4_readSizes wsX4_readSizes) := goodIn_app (goodIn_of _ (by decide +kernel)) ggX4_readSetup_X4_readSizes
set_option maxRecDepth 20000 in
theorem ggX4_readSetup_X4_readPolicy : GoodIn wsX4_readSetup wsX4_readPolicy := goodIn_r _ [104, 105, 106, 9, 10, 11, 12, 13, 14, 15, 16, 17, 18, 19, 20, 21, 22, 23, 24, 25, 26, 27, 28, 29, 30, 31, 32, 33, 34, 35, 36, 37, 38, 107, 108, 5, 109, 110, 111, 39, 40, 41, 42, 43, 44, 45, 46, 47, 48, 49, 50, 51, 52, 53, 54, 55, 56, 57, 58, 59, 60, 61, 62, 63, 64, 65, 66, 67, 68, 69, 70, 71, 72, 73, 74, 75, 76, 77, 78, 79, 80, 81, 82, 83, 84, 85, 86, 87, 88, 89, 90, 91, 92, 93, 94, 95, 96, 97, 98, 99, 100, 127, 128, 129, 130, 131, 132, 133, 134, 135, 136, 137] (by decide +kernel) (by decide +kernel)
set_option maxRecDepth 20000 in
theorem gX4_readSetup_X4_readPolicy : GoodIn wsX4_readSetup (wsV RX4 23 RX4 yX4_readPolicy wsX4_readPolicy) := goodIn_app (goodIn_of _ (by decide +kernel)) ggX4_readSetup_X4_readPolicy
set_option maxRecDepth 20000 in
theorem ggX4_readSetup_X4_readStatements : GoodIn wsX4_readSetup wsX4_readStatements := goodIn_r _ [115, 9, 10, 11, 12, 13, 14, 15, 16, 17, 18, 19, 20, 21, 22, 23, 24, 25, 26, 27, 28, 29, 30, 31, 32, 33, 34, 35, 36, 37, 38, 116, 117, 118, 5, 119, 39, 40, 41, 42, 43, 44, 45, 46, 47, 48, 49, 50, 51, 52, 53, 54, 55, 56, 57, 58, 59, 60, 61, 62, 63, 64, 65, 66, 67, 68, 69, 70, 71, 72, 73, 74, 75, 76, 77, 78, 79, 80, 81, 82, 83, 84, 85, 86, 87, 88, 89, 90, 91, 120, 121, 122, 123, 1, 7, 124, 125, 126, 133, 134, 135, 136, 137, 127, 128, 129, 130, 131, 132] (by decide +kernel) (by decide +kernel)
set_option maxRecDepth 20000 in
theorem gX4_readSetup_X4_readStatements : GoodIn wsX4_readSetup (wsV RX4 26 RX4 yX4_readStatements wsX4_readStatements) := goodIn_app (goodIn_of _ (by decide +kernel)) ggX4_readSetup_X4_readStatements
theorem dX4_readSetup_0 : decode cX4_readSetup 0 = .ok (.aload_n 0, 1) := by decide +kernel
theorem dX4_readSetup_1 : decode cX4_readSetup 1 = .ok (.iconst 0, 1) := by decide +kernel
theorem dX4_readSetup_2 : decode cX4_readSetup 2 = .ok (.putfield 15, 3) := by decide +kernel
theorem dX4_readSetup_5 : decode cX4_readSetup 5 = .ok (.aload_n 0, 1) := by decide +kernel
theorem dX4_readSetup_6 : decode cX4_readSetup 6 = .ok (.aload_n 1, 1) := by decide +kernel
theorem dX4_readSetup_7 : decode cX4_readSetup 7 = .ok (.invokevirtual 19, 3) := by decide +kernel
theorem dX4_readSetup_10 : decode cX4_readSetup 10 = .ok (.ifCond .eq 23, 3) := by decide +kernel
theorem dX4_readSetup_13 : decode cX4_readSetup 13 = .ok (.aload_n 0, 1) := by decide +kernel
theorem dX4_readSetup_14 : decode cX4_readSetup 14 = .ok (.aload_n 1, 1) := by decide +kernel
theorem dX4_readSetup_15 : decode cX4_readSetup 15 = .ok (.invokevirtual 23, 3) := by decide +kernel
theorem dX4_readSetup_18 : decode cX4_readSetup 18 = .ok (.ifCond .eq 15, 3) := by decide +kernel
theorem dX4_readSetup_21 : decode cX4_readSetup 21 = .ok (.aload_n 0, 1) := by decide +kernel
theorem dX4_readSetup_22 : decode cX4_readSetup 22 = .ok (.aload_n 1, 1) := by decide +kernel
theorem dX4_readSetup_23 : decode cX4_readSetup 23 = .ok (.invokevirtual 26, 3) := by decide +kernel
theorem dX4_readSetup_26 : decode cX4_readSetup 26 = .ok (.ifCond .eq 7, 3) := by decide +kernel
theorem dX4_readSetup_29 : decode cX4_readSetup 29 = .ok (.iconst 1, 1) := by decide +kernel
theorem dX4_readSetup_30 : decode cX4_readSetup 30 = .ok (.goto 4, 3) := by decide +kernel
theorem dX4_readSetup_33 : decode cX4_readSetup 33 = .ok (.iconst 0, 1) := by decide +kernel
theorem dX4_readSetup_34 : decode cX4_readSetup 34 = .ok (.ireturn, 1) := by decide +kernel
set_option maxRecDepth 20000 in
theorem ggX4_readSizes_X6_step : GoodIn wsX4_readSizes wsX6_step := goodIn_r _ [7, 8, 9, 10, 11, 12, 13, 14, 15, 16, 17, 6, 18, 19, 20, 21, 22, 23, 24, 25, 26, 27, 28, 29, 30, 31, 32, 101, 102, 103, 104, 105] (by decide +kernel) (by decide +kernel)
set_option maxRecDepth 20000 in
theorem gX4_readSizes_X6_step : GoodIn wsX4_readSizes (wsV RX4 29 RX6 yX6_step wsX6_step) := goodIn_app (goodIn_of _ (by decide +kernel)) ggX4_readSizes_X6_step
set_option maxRecDepth 20000 in
theorem ggX4_readSizes_X6_isWord : GoodIn wsX4_readSizes wsX6_isWord := goodIn_r _ [36, 12, 8, 9, 11, 37, 38, 39, 40, 41, 42, 43, 44, 45, 46, 47, 48, 13, 14, 15, 49, 50, 51, 52, 53, 54, 55, 56, 57, 58, 59, 60, 61, 62, 63, 64, 65, 66, 67, 68, 69, 70, 71, 72, 73, 74, 75, 76, 77, 78, 79, 80, 81, 82, 83, 84, 85, 101, 102, 103, 104, 105] (by decide +kernel) (by decide +kernel)
set_option maxRecDepth 20000 in
theorem gX4_readSizes_X6_isWord : GoodIn wsX4_readSizes (wsV RX4 36 RX6 yX6_isWord wsX6_isWord) := goodIn_app (goodIn_of _ (by decide +kernel)) ggX4_readSizes_X6_isWord
set_option maxRecDepth 20000 in
theorem ggX4_readSizes_X6_isNumber : GoodIn wsX4_readSizes wsX6_isNumber := goodIn_r _ [89, 12, 90, 91, 92, 6, 93, 9, 8, 11, 13, 14, 15, 101, 102, 103, 104, 105] (by decide +kernel) (by decide +kernel)
set_option maxRecDepth 20000 in
theorem gX4_readSizes_X6_isNumber : GoodIn wsX4_readSizes (wsV RX4 40 RX6 yX6_isNumber wsX6_isNumber) := goodIn_app (goodIn_of _ (by decide +kernel)) ggX4_readSizes_X6_isNumber
set_option maxRecDepth 20000 in
theorem ggX4_readSizes_X6_number : GoodIn wsX4_readSizes wsX6_number := goodIn_r _ [93, 9, 8, 11, 13, 14, 15, 101, 102, 103, 104, 105] (by decide +kernel) (by decide +kernel)
set_option maxRecDepth 20000 in
theorem gX4_readSizes_X6_number : GoodIn wsX4_readSizes (wsV RX4 44 RX6 yX6_number wsX6_number) := goodIn_app (goodIn_of _ (by decide +kernel)) ggX4_readSizes_X6_number
theorem dX4_readSizes_0 : decode cX4_readSizes 0 = .ok (.aload_n 1, 1) := by decide +kernel
theorem dX4_readSizes_1 : decode cX4_readSizes 1 = .ok (.invokevirtual 29, 3) := by decide +kernel
theorem dX4_readSizes_4 : decode cX4_readSizes 4 = .ok (.aload_n 1, 1) := by decide +kernel
theorem dX4_readSizes_5 : decode cX4_readSizes 5 = .ok (.ldc 34, 2) := by decide +kernel
theorem dX4_readSizes_7 : decode cX4_readSizes 7 = .ok (.invokevirtual 36, 3) := by decide +kernel
theorem dX4_readSizes_10 : decode cX4_readSizes 10 = .ok (.ifCond .ne 5, 3) := by decide +kernel
theorem dX4_readSizes_13 : decode cX4_readSizes 13 = .ok (.iconst 0, 1) := by decide +kernel
theorem dX4_readSizes_14 : decode cX4_readSizes 14 = .ok (.ireturn, 1) := by decide +kernel
theorem dX4_readSizes_15 : decode cX4_readSizes 15 = .ok (.aload_n 1, 1) := by decide +kernel
theorem dX4_readSizes_16 : decode cX4_readSizes 16 = .ok (.invokevirtual 29, 3) := by decide +kernel
theorem dX4_readSizes_19 : decode cX4_readSizes 19 = .ok (.aload_n 1, 1) := by decide +kernel
theorem dX4_readSizes_20 : decode cX4_readSizes 20 = .ok (.iconst 2, 1) := by decide +kernel
theorem dX4_readSizes_21 : decode cX4_readSizes 21 = .ok (.bipush 26, 2) := by decide +kernel
theorem dX4_readSizes_23 : decode cX4_readSizes 23 = .ok (.invokevirtual 40, 3) := by decide +kernel
theorem dX4_readSizes_26 : decode cX4_readSizes 26 = .ok (.ifCond .ne 5, 3) := by decide +kernel
theorem dX4_readSizes_29 : decode cX4_readSizes 29 = .ok (.iconst 0, 1) := by decide +kernel
theorem dX4_readSizes_30 : decode cX4_readSizes 30 = .ok (.ireturn, 1) := by decide +kernel
theorem dX4_readSizes_31 : decode cX4_readSizes 31 = .ok (.aload_n 0, 1) := by decide +kernel
theorem dX4_readSizes_32 : decode cX4_readSizes 32 = .ok (.aload_n 1, 1) := by decide +kernel
theorem dX4_readSizes_33 : decode cX4_readSizes 33 = .ok (.invokevirtual 44, 3) := by decide +kernel
theorem dX4_readSizes_36 : decode cX4_readSizes 36 = .ok (.putfield 48, 3) := by decide +kernel
theorem dX4_readSizes_39 : decode cX4_readSizes 39 = .ok (.aload_n 1, 1) := by decide +kernel
theorem dX4_readSizes_40 : decode cX4_readSizes 40 = .ok (.invokevirtual 29, 3) := by decide +kernel
theorem dX4_readSizes_43 : decode cX4_readSizes 43 = .ok (.aload_n 1, 1) := by decide +kernel
theorem dX4_readSizes_44 : decode cX4_readSizes 44 = .ok (.iconst 3, 1) := by decide +kernel
theorem dX4_readSizes_45 : decode cX4_readSizes 45 = .ok (.bipush 8, 2) := by decide +kernel
theorem dX4_readSizes_47 : decode cX4_readSizes 47 = .ok (.invokevirtual 40, 3) := by decide +kernel
theorem dX4_readSizes_50 : decode cX4_readSizes 50 = .ok (.ifCond .ne 5, 3) := by decide +kernel
theorem dX4_readSizes_53 : decode cX4_readSizes 53 = .ok (.iconst 0, 1) := by decide +kernel
theorem dX4_readSizes_54 : decode cX4_readSizes 54 = .ok (.ireturn, 1) := by decide +kernel
theorem dX4_readSizes_55 : decode cX4_readSizes 55 = .ok (.aload_n 0, 1) := by decide +kernel
theorem dX4_readSizes_56 : decode cX4_readSizes 56 = .ok (.aload_n 1, 1) := by decide +kernel
theorem dX4_readSizes_57 : decode cX4_readSizes 57 = .ok (.invokevirtual 44, 3) := by decide +kernel
theorem dX4_readSizes_60 : decode cX4_readSizes 60 = .ok (.putfield 51, 3) := by decide +kernel
theorem dX4_readSizes_63 : decode cX4_readSizes 63 = .ok (.iconst 1, 1) := by decide +kernel
theorem dX4_readSizes_64 : decode cX4_readSizes 64 = .ok (.aload_n 0, 1) := by decide +kernel
theorem dX4_readSizes_65 : decode cX4_readSizes 65 = .ok (.getfield 51, 3) := by decide +kernel
theorem dX4_readSizes_68 : decode cX4_readSizes 68 = .ok (.ishl, 1) := by decide +kernel
theorem dX4_readSizes_69 : decode cX4_readSizes 69 = .ok (.aload_n 0, 1) := by decide +kernel
theorem dX4_readSizes_70 : decode cX4_readSizes 70 = .ok (.getfield 48, 3) := by decide +kernel
theorem dX4_readSizes_73 : decode cX4_readSizes 73 = .ok (.iconst 2, 1) := by decide +kernel
theorem dX4_readSizes_74 : decode cX4_readSizes 74 = .ok (.iadd, 1) := by decide +kernel
theorem dX4_readSizes_75 : decode cX4_readSizes 75 = .ok (.if_icmp .lt 7, 3) := by decide +kernel
theorem dX4_readSizes_78 : decode cX4_readSizes 78 = .ok (.iconst 1, 1) := by decide +kernel
theorem dX4_readSizes_79 : decode cX4_readSizes 79 = .ok (.goto 4, 3) := by decide +kernel
theorem dX4_readSizes_82 : decode cX4_readSizes 82 = .ok (.iconst 0, 1) := by decide +kernel
theorem dX4_readSizes_83 : decode cX4_readSizes 83 = .ok (.ireturn, 1) := by decide +kernel
set_option maxRecDepth 20000 in
theorem ggX4_readPolicy_X6_step : GoodIn wsX4_readPolicy wsX6_step := goodIn_r _ [7, 8, 9, 10, 11, 12, 13, 14, 15, 16, 17, 6, 18, 19, 20, 21, 22, 23, 24, 25, 26, 27, 28, 29, 30, 31, 32, 107, 108, 109, 110, 111] (by decide +kernel) (by decide +kernel)
set_option maxRecDepth 20000 in
theorem gX4_readPolicy_X6_step : GoodIn wsX4_readPolicy (wsV RX4 29 RX6 yX6_step wsX6_step) := goodIn_app (goodIn_of _ (by decide +kernel)) ggX4_readPolicy_X6_step
set_option maxRecDepth 20000 in
theorem ggX4_readPolicy_X4_policyNamed : GoodIn wsX4_readPolicy wsX4_policyNamed := goodIn_r _ [36, 37, 14, 38, 39, 40, 41, 6, 42, 12, 8, 9, 11, 43, 44, 45, 46, 47, 48, 49, 50, 51, 52, 53, 54, 13, 15, 55, 56, 57, 58, 59, 60, 61, 62, 63, 64, 65, 66, 67, 68, 69, 70, 71, 72, 73, 74, 75, 76, 77, 78, 79, 80, 81, 82, 83, 84, 85, 86, 87, 88, 89, 90, 91, 107, 108, 109, 110, 111] (by decide +kernel) (by decide +kernel)
set_option maxRecDepth 20000 in
theorem gX4_readPolicy_X4_policyNamed : GoodIn wsX4_readPolicy (va_wsS RX4 54 yX4_policyNamed wsX4_policyNamed) := goodIn_app (goodIn_of _ (by decide +kernel)) ggX4_readPolicy_X4_policyNamed
set_option maxRecDepth 20000 in
theorem ggX4_readPolicy_X6_isNumber : GoodIn wsX4_readPolicy wsX6_isNumber := goodIn_r _ [95, 12, 96, 97, 98, 6, 99, 9, 8, 11, 13, 14, 15, 107, 108, 109, 110, 111] (by decide +kernel) (by decide +kernel)
set_option maxRecDepth 20000 in
theorem gX4_readPolicy_X6_isNumber : GoodIn wsX4_readPolicy (wsV RX4 40 RX6 yX6_isNumber wsX6_isNumber) := goodIn_app (goodIn_of _ (by decide +kernel)) ggX4_readPolicy_X6_isNumber
set_option maxRecDepth 20000 in
theorem ggX4_readPolicy_X6_number : GoodIn wsX4_readPolicy wsX6_number := goodIn_r _ [99, 9, 8, 11, 13, 14, 15, 107, 108, 109, 110, 111] (by decide +kernel) (by decide +kernel)
set_option maxRecDepth 20000 in
theorem gX4_readPolicy_X6_number : GoodIn wsX4_readPolicy (wsV RX4 44 RX6 yX6_number wsX6_number) := goodIn_app (goodIn_of _ (by decide +kernel)) ggX4_readPolicy_X6_number
theorem dX4_readPolicy_0 : decode cX4_readPolicy 0 = .ok (.aload_n 1, 1) := by decide +kernel
theorem dX4_readPolicy_1 : decode cX4_readPolicy 1 = .ok (.invokevirtual 29, 3) := by decide +kernel
theorem dX4_readPolicy_4 : decode cX4_readPolicy 4 = .ok (.aload_n 0, 1) := by decide +kernel
theorem dX4_readPolicy_5 : decode cX4_readPolicy 5 = .ok (.aload_n 1, 1) := by decide +kernel
theorem dX4_readPolicy_6 : decode cX4_readPolicy 6 = .ok (.invokestatic 54, 3) := by decide +kernel
theorem dX4_readPolicy_9 : decode cX4_readPolicy 9 = .ok (.putfield 58, 3) := by decide +kernel
theorem dX4_readPolicy_12 : decode cX4_readPolicy 12 = .ok (.aload_n 0, 1) := by decide +kernel
theorem dX4_readPolicy_13 : decode cX4_readPolicy 13 = .ok (.getfield 58, 3) := by decide +kernel
theorem dX4_readPolicy_16 : decode cX4_readPolicy 16 = .ok (.iconst (-1), 1) := by decide +kernel
theorem dX4_readPolicy_17 : decode cX4_readPolicy 17 = .ok (.if_icmp .ne 5, 3) := by decide +kernel
theorem dX4_readPolicy_20 : decode cX4_readPolicy 20 = .ok (.iconst 0, 1) := by decide +kernel
theorem dX4_readPolicy_21 : decode cX4_readPolicy 21 = .ok (.ireturn, 1) := by decide +kernel
theorem dX4_readPolicy_22 : decode cX4_readPolicy 22 = .ok (.aload_n 1, 1) := by decide +kernel
theorem dX4_readPolicy_23 : decode cX4_readPolicy 23 = .ok (.invokevirtual 29, 3) := by decide +kernel
theorem dX4_readPolicy_26 : decode cX4_readPolicy 26 = .ok (.aload_n 1, 1) := by decide +kernel
theorem dX4_readPolicy_27 : decode cX4_readPolicy 27 = .ok (.iconst 1, 1) := by decide +kernel
theorem dX4_readPolicy_28 : decode cX4_readPolicy 28 = .ok (.sipush 200, 3) := by decide +kernel
theorem dX4_readPolicy_31 : decode cX4_readPolicy 31 = .ok (.invokevirtual 40, 3) := by decide +kernel
theorem dX4_readPolicy_34 : decode cX4_readPolicy 34 = .ok (.ifCond .ne 5, 3) := by decide +kernel
theorem dX4_readPolicy_37 : decode cX4_readPolicy 37 = .ok (.iconst 0, 1) := by decide +kernel
theorem dX4_readPolicy_38 : decode cX4_readPolicy 38 = .ok (.ireturn, 1) := by decide +kernel
theorem dX4_readPolicy_39 : decode cX4_readPolicy 39 = .ok (.aload_n 0, 1) := by decide +kernel
theorem dX4_readPolicy_40 : decode cX4_readPolicy 40 = .ok (.aload_n 1, 1) := by decide +kernel
theorem dX4_readPolicy_41 : decode cX4_readPolicy 41 = .ok (.invokevirtual 44, 3) := by decide +kernel
theorem dX4_readPolicy_44 : decode cX4_readPolicy 44 = .ok (.putfield 61, 3) := by decide +kernel
theorem dX4_readPolicy_47 : decode cX4_readPolicy 47 = .ok (.aload_n 1, 1) := by decide +kernel
theorem dX4_readPolicy_48 : decode cX4_readPolicy 48 = .ok (.invokevirtual 29, 3) := by decide +kernel
theorem dX4_readPolicy_51 : decode cX4_readPolicy 51 = .ok (.aload_n 1, 1) := by decide +kernel
theorem dX4_readPolicy_52 : decode cX4_readPolicy 52 = .ok (.getfield 64, 3) := by decide +kernel
theorem dX4_readPolicy_55 : decode cX4_readPolicy 55 = .ok (.iconst 3, 1) := by decide +kernel
theorem dX4_readPolicy_56 : decode cX4_readPolicy 56 = .ok (.if_icmp .ne 7, 3) := by decide +kernel
theorem dX4_readPolicy_59 : decode cX4_readPolicy 59 = .ok (.iconst 1, 1) := by decide +kernel
theorem dX4_readPolicy_60 : decode cX4_readPolicy 60 = .ok (.goto 4, 3) := by decide +kernel
theorem dX4_readPolicy_63 : decode cX4_readPolicy 63 = .ok (.iconst 0, 1) := by decide +kernel
theorem dX4_readPolicy_64 : decode cX4_readPolicy 64 = .ok (.ireturn, 1) := by decide +kernel
set_option maxRecDepth 20000 in
theorem ggX4_policyNamed_X7_nameOfPolicy : GoodIn wsX4_policyNamed wsX7_nameOfPolicy := goodIn_r _ [3] (by decide +kernel) (by decide +kernel)
set_option maxRecDepth 20000 in
theorem gX4_policyNamed_X7_nameOfPolicy_n67 : GoodIn wsX4_policyNamed (wsX7_nameOfPolicy) := ggX4_policyNamed_X7_nameOfPolicy
set_option maxRecDepth 20000 in
theorem ggX4_policyNamed_X6_isWord : GoodIn wsX4_policyNamed wsX6_isWord := goodIn_r _ [8, 9, 10, 11, 12, 13, 14, 15, 16, 17, 18, 19, 20, 21, 22, 23, 24, 25, 2, 26, 27, 28, 29, 30, 31, 32, 33, 34, 35, 36, 37, 38, 39, 40, 41, 42, 43, 44, 45, 46, 47, 48, 49, 50, 51, 52, 53, 54, 55, 56, 57, 58, 59, 60, 61, 62, 63, 64, 65, 66, 67, 68] (by decide +kernel) (by decide +kernel)
set_option maxRecDepth 20000 in
theorem gX4_policyNamed_X6_isWord : GoodIn wsX4_policyNamed (wsV RX4 36 RX6 yX6_isWord wsX6_isWord) := goodIn_app (goodIn_of _ (by decide +kernel)) ggX4_policyNamed_X6_isWord
theorem dX4_policyNamed_0 : decode cX4_policyNamed 0 = .ok (.iconst 0, 1) := by decide +kernel
theorem dX4_policyNamed_1 : decode cX4_policyNamed 1 = .ok (.istore_n 1, 1) := by decide +kernel
theorem dX4_policyNamed_2 : decode cX4_policyNamed 2 = .ok (.iload_n 1, 1) := by decide +kernel
theorem dX4_policyNamed_3 : decode cX4_policyNamed 3 = .ok (.iconst 2, 1) := by decide +kernel
theorem dX4_policyNamed_4 : decode cX4_policyNamed 4 = .ok (.if_icmp .gt 22, 3) := by decide +kernel
theorem dX4_policyNamed_7 : decode cX4_policyNamed 7 = .ok (.aload_n 0, 1) := by decide +kernel
theorem dX4_policyNamed_8 : decode cX4_policyNamed 8 = .ok (.iload_n 1, 1) := by decide +kernel
theorem dX4_policyNamed_9 : decode cX4_policyNamed 9 = .ok (.invokestatic 67, 3) := by decide +kernel
theorem dX4_policyNamed_12 : decode cX4_policyNamed 12 = .ok (.invokevirtual 36, 3) := by decide +kernel
theorem dX4_policyNamed_15 : decode cX4_policyNamed 15 = .ok (.ifCond .eq 5, 3) := by decide +kernel
theorem dX4_policyNamed_18 : decode cX4_policyNamed 18 = .ok (.iload_n 1, 1) := by decide +kernel
theorem dX4_policyNamed_19 : decode cX4_policyNamed 19 = .ok (.ireturn, 1) := by decide +kernel
theorem dX4_policyNamed_20 : decode cX4_policyNamed 20 = .ok (.iinc 1 1, 3) := by decide +kernel
theorem dX4_policyNamed_23 : decode cX4_policyNamed 23 = .ok (.goto (-21), 3) := by decide +kernel
theorem dX4_policyNamed_26 : decode cX4_policyNamed 26 = .ok (.iconst (-1), 1) := by decide +kernel
theorem dX4_policyNamed_27 : decode cX4_policyNamed 27 = .ok (.ireturn, 1) := by decide +kernel
set_option maxRecDepth 20000 in
theorem ggX4_readStatements_X6_step : GoodIn wsX4_readStatements wsX6_step := goodIn_r _ [5, 6, 7, 8, 9, 10, 11, 12, 13, 14, 15, 4, 16, 17, 18, 19, 20, 21, 22, 23, 24, 25, 26, 27, 28, 29, 30, 98, 99, 100, 101, 102] (by decide +kernel) (by decide +kernel)
set_option maxRecDepth 20000 in
theorem gX4_readStatements_X6_step : GoodIn wsX4_readStatements (wsV RX4 29 RX6 yX6_step wsX6_step) := goodIn_app (goodIn_of _ (by decide +kernel)) ggX4_readStatements_X6_step
set_option maxRecDepth 20000 in
theorem ggX4_readStatements_X4_readStatement : GoodIn wsX4_readStatements wsX4_readStatement := goodIn_r _ [35, 36, 37, 38, 4, 39, 10, 6, 7, 9, 40, 41, 42, 43, 44, 45, 46, 47, 48, 49, 50, 51, 11, 12, 13, 52, 53, 54, 55, 56, 57, 58, 59, 60, 61, 62, 63, 64, 65, 66, 67, 68, 69, 70, 71, 72, 73, 74, 75, 76, 77, 78, 79, 80, 81, 82, 83, 84, 85, 86, 87, 88, 1, 2, 3, 5, 8, 14, 15, 16, 17, 18, 19, 20, 21, 22, 23, 24, 25, 26, 27, 28, 29, 30, 89, 90, 91, 34, 92, 93, 94, 95, 96, 97, 98, 99, 100, 101, 102, 103, 104, 105, 106, 107, 108] (by decide +kernel) (by decide +kernel)
set_option maxRecDepth 20000 in
theorem gX4_readStatements_X4_readStatement : GoodIn wsX4_readStatements (wsV RX4 71 RX4 yX4_readStatement wsX4_readStatement) := goodIn_app (goodIn_of _ (by decide +kernel)) ggX4_readStatements_X4_readStatement
theorem dX4_readStatements_0 : decode cX4_readStatements 0 = .ok (.aload_n 1, 1) := by decide +kernel
theorem dX4_readStatements_1 : decode cX4_readStatements 1 = .ok (.invokevirtual 29, 3) := by decide +kernel
theorem dX4_readStatements_4 : decode cX4_readStatements 4 = .ok (.iconst 0, 1) := by decide +kernel
theorem dX4_readStatements_5 : decode cX4_readStatements 5 = .ok (.istore_n 2, 1) := by decide +kernel
theorem dX4_readStatements_6 : decode cX4_readStatements 6 = .ok (.iload_n 2, 1) := by decide +kernel
theorem dX4_readStatements_7 : decode cX4_readStatements 7 = .ok (.sipush 800, 3) := by decide +kernel
theorem dX4_readStatements_10 : decode cX4_readStatements 10 = .ok (.if_icmp .ge 30, 3) := by decide +kernel
theorem dX4_readStatements_13 : decode cX4_readStatements 13 = .ok (.aload_n 1, 1) := by decide +kernel
theorem dX4_readStatements_14 : decode cX4_readStatements 14 = .ok (.getfield 64, 3) := by decide +kernel
theorem dX4_readStatements_17 : decode cX4_readStatements 17 = .ok (.ifCond .eq 23, 3) := by decide +kernel
theorem dX4_readStatements_20 : decode cX4_readStatements 20 = .ok (.aload_n 0, 1) := by decide +kernel
theorem dX4_readStatements_21 : decode cX4_readStatements 21 = .ok (.aload_n 1, 1) := by decide +kernel
theorem dX4_readStatements_22 : decode cX4_readStatements 22 = .ok (.invokevirtual 71, 3) := by decide +kernel
theorem dX4_readStatements_25 : decode cX4_readStatements 25 = .ok (.ifCond .ne 5, 3) := by decide +kernel
theorem dX4_readStatements_28 : decode cX4_readStatements 28 = .ok (.iconst 0, 1) := by decide +kernel
theorem dX4_readStatements_29 : decode cX4_readStatements 29 = .ok (.ireturn, 1) := by decide +kernel
theorem dX4_readStatements_30 : decode cX4_readStatements 30 = .ok (.aload_n 1, 1) := by decide +kernel
theorem dX4_readStatements_31 : decode cX4_readStatements 31 = .ok (.invokevirtual 29, 3) := by decide +kernel
theorem dX4_readStatements_34 : decode cX4_readStatements 34 = .ok (.iinc 2 1, 3) := by decide +kernel
theorem dX4_readStatements_37 : decode cX4_readStatements 37 = .ok (.goto (-31), 3) := by decide +kernel
theorem dX4_readStatements_40 : decode cX4_readStatements 40 = .ok (.aload_n 1, 1) := by decide +kernel
theorem dX4_readStatements_41 : decode cX4_readStatements 41 = .ok (.getfield 64, 3) := by decide +kernel
theorem dX4_readStatements_44 : decode cX4_readStatements 44 = .ok (.ifCond .ne 7, 3) := by decide +kernel
theorem dX4_readStatements_47 : decode cX4_readStatements 47 = .ok (.iconst 1, 1) := by decide +kernel
theorem dX4_readStatements_48 : decode cX4_readStatements 48 = .ok (.goto 4, 3) := by decide +kernel
theorem dX4_readStatements_51 : decode cX4_readStatements 51 = .ok (.iconst 0, 1) := by decide +kernel
theorem dX4_readStatements_52 : decode cX4_readStatements 52 = .ok (.ireturn, 1) := by decide +kernel
set_option maxRecDepth 20000 in
theorem ggX4_readStatement_X6_isWord : GoodIn wsX4_readStatement wsX6_isWord := goodIn_r _ [5, 6, 7, 8, 9, 10, 11, 12, 13, 14, 15, 16, 17, 18, 19, 20, 21, 22, 23, 24, 25, 26, 27, 28, 29, 30, 31, 32, 33, 34, 35, 36, 37, 38, 39, 40, 41, 42, 43, 44, 45, 46, 47, 48, 49, 50, 51, 52, 53, 54, 55, 56, 57, 58, 59, 60, 61, 94, 95, 96, 97, 98] (by decide +kernel) (by decide +kernel)
set_option maxRecDepth 20000 in
theorem gX4_readStatement_X6_isWord : GoodIn wsX4_readStatement (wsV RX4 36 RX6 yX6_isWord wsX6_isWord) := goodIn_app (goodIn_of _ (by decide +kernel)) ggX4_readStatement_X6_isWord
set_option maxRecDepth 20000 in
theorem ggX4_readStatement_X6_step : GoodIn wsX4_readStatement wsX6_step := goodIn_r _ [65, 7, 8, 66, 9, 6, 22, 23, 24, 67, 68, 4, 69, 70, 71, 72, 73, 74, 75, 76, 77, 78, 79, 80, 81, 82, 83, 94, 95, 96, 97, 98] (by decide +kernel) (by decide +kernel)
set_option maxRecDepth 20000 in
theorem gX4_readStatement_X6_step : GoodIn wsX4_readStatement (wsV RX4 29 RX6 yX6_step wsX6_step) := goodIn_app (goodIn_of _ (by decide +kernel)) ggX4_readStatement_X6_step
set_option maxRecDepth 20000 in
theorem ggX4_readStatement_X4_readLetters : GoodIn wsX4_readStatement wsX4_readLetters := goodIn_r _ [88, 89, 90, 91, 22, 23, 24, 92, 93, 94, 95, 96, 97, 98, 99, 100, 101, 102, 103, 104] (by decide +kernel) (by decide +kernel)
set_option maxRecDepth 20000 in
theorem gX4_readStatement_X4_readLetters : GoodIn wsX4_readStatement (wsV RX4 75 RX4 yX4_readLetters wsX4_readLetters) := goodIn_app (goodIn_of _ (by decide +kernel)) ggX4_readStatement_X4_readLetters
theorem dX4_readStatement_0 : decode cX4_readStatement 0 = .ok (.aload_n 1, 1) := by decide +kernel
theorem dX4_readStatement_1 : decode cX4_readStatement 1 = .ok (.ldc 74, 2) := by decide +kernel
theorem dX4_readStatement_3 : decode cX4_readStatement 3 = .ok (.invokevirtual 36, 3) := by decide +kernel
theorem dX4_readStatement_6 : decode cX4_readStatement 6 = .ok (.ifCond .ne 5, 3) := by decide +kernel
theorem dX4_readStatement_9 : decode cX4_readStatement 9 = .ok (.iconst 0, 1) := by decide +kernel
theorem dX4_readStatement_10 : decode cX4_readStatement 10 = .ok (.ireturn, 1) := by decide +kernel
theorem dX4_readStatement_11 : decode cX4_readStatement 11 = .ok (.aload_n 1, 1) := by decide +kernel
theorem dX4_readStatement_12 : decode cX4_readStatement 12 = .ok (.invokevirtual 29, 3) := by decide +kernel
theorem dX4_readStatement_15 : decode cX4_readStatement 15 = .ok (.aload_n 0, 1) := by decide +kernel
theorem dX4_readStatement_16 : decode cX4_readStatement 16 = .ok (.aload_n 1, 1) := by decide +kernel
theorem dX4_readStatement_17 : decode cX4_readStatement 17 = .ok (.invokevirtual 75, 3) := by decide +kernel
theorem dX4_readStatement_20 : decode cX4_readStatement 20 = .ok (.ifCond .ne 5, 3) := by decide +kernel
theorem dX4_readStatement_23 : decode cX4_readStatement 23 = .ok (.iconst 0, 1) := by decide +kernel
theorem dX4_readStatement_24 : decode cX4_readStatement 24 = .ok (.ireturn, 1) := by decide +kernel
theorem dX4_readStatement_25 : decode cX4_readStatement 25 = .ok (.aload_n 1, 1) := by decide +kernel
theorem dX4_readStatement_26 : decode cX4_readStatement 26 = .ok (.invokevirtual 29, 3) := by decide +kernel
theorem dX4_readStatement_29 : decode cX4_readStatement 29 = .ok (.aload_n 1, 1) := by decide +kernel
theorem dX4_readStatement_30 : decode cX4_readStatement 30 = .ok (.getfield 64, 3) := by decide +kernel
theorem dX4_readStatement_33 : decode cX4_readStatement 33 = .ok (.iconst 3, 1) := by decide +kernel
theorem dX4_readStatement_34 : decode cX4_readStatement 34 = .ok (.if_icmp .ne 7, 3) := by decide +kernel
theorem dX4_readStatement_37 : decode cX4_readStatement 37 = .ok (.iconst 1, 1) := by decide +kernel
theorem dX4_readStatement_38 : decode cX4_readStatement 38 = .ok (.goto 4, 3) := by decide +kernel
theorem dX4_readStatement_41 : decode cX4_readStatement 41 = .ok (.iconst 0, 1) := by decide +kernel
theorem dX4_readStatement_42 : decode cX4_readStatement 42 = .ok (.ireturn, 1) := by decide +kernel
set_option maxRecDepth 20000 in
theorem ggX4_readLetters_X7_at : GoodIn wsX4_readLetters wsX7_at := goodIn_r _ [6] (by decide +kernel) (by decide +kernel)
set_option maxRecDepth 20000 in
theorem gX4_readLetters_X7_at_n87 : GoodIn wsX4_readLetters (wsX7_at) := ggX4_readLetters_X7_at
set_option maxRecDepth 20000 in
theorem ggX4_readLetters_X7_put : GoodIn wsX4_readLetters wsX7_put := goodIn_r _ [8] (by decide +kernel) (by decide +kernel)
set_option maxRecDepth 20000 in
theorem gX4_readLetters_X7_put_n91 : GoodIn wsX4_readLetters (wsX7_put) := ggX4_readLetters_X7_put
theorem dX4_readLetters_0 : decode cX4_readLetters 0 = .ok (.aload_n 1, 1) := by decide +kernel
theorem dX4_readLetters_1 : decode cX4_readLetters 1 = .ok (.getfield 64, 3) := by decide +kernel
theorem dX4_readLetters_4 : decode cX4_readLetters 4 = .ok (.iconst 1, 1) := by decide +kernel
theorem dX4_readLetters_5 : decode cX4_readLetters 5 = .ok (.if_icmp .ne 23, 3) := by decide +kernel
theorem dX4_readLetters_8 : decode cX4_readLetters 8 = .ok (.aload_n 0, 1) := by decide +kernel
theorem dX4_readLetters_9 : decode cX4_readLetters 9 = .ok (.getfield 15, 3) := by decide +kernel
theorem dX4_readLetters_12 : decode cX4_readLetters 12 = .ok (.aload_n 1, 1) := by decide +kernel
theorem dX4_readLetters_13 : decode cX4_readLetters 13 = .ok (.getfield 78, 3) := by decide +kernel
theorem dX4_readLetters_16 : decode cX4_readLetters 16 = .ok (.aload_n 1, 1) := by decide +kernel
theorem dX4_readLetters_17 : decode cX4_readLetters 17 = .ok (.getfield 81, 3) := by decide +kernel
theorem dX4_readLetters_20 : decode cX4_readLetters 20 = .ok (.isub, 1) := by decide +kernel
theorem dX4_readLetters_21 : decode cX4_readLetters 21 = .ok (.iadd, 1) := by decide +kernel
theorem dX4_readLetters_22 : decode cX4_readLetters 22 = .ok (.sipush 400, 3) := by decide +kernel
theorem dX4_readLetters_25 : decode cX4_readLetters 25 = .ok (.if_icmp .le 5, 3) := by decide +kernel
theorem dX4_readLetters_28 : decode cX4_readLetters 28 = .ok (.iconst 0, 1) := by decide +kernel
theorem dX4_readLetters_29 : decode cX4_readLetters 29 = .ok (.ireturn, 1) := by decide +kernel
theorem dX4_readLetters_30 : decode cX4_readLetters 30 = .ok (.aload_n 1, 1) := by decide +kernel
theorem dX4_readLetters_31 : decode cX4_readLetters 31 = .ok (.getfield 81, 3) := by decide +kernel
theorem dX4_readLetters_34 : decode cX4_readLetters 34 = .ok (.istore_n 2, 1) := by decide +kernel
theorem dX4_readLetters_35 : decode cX4_readLetters 35 = .ok (.iload_n 2, 1) := by decide +kernel
theorem dX4_readLetters_36 : decode cX4_readLetters 36 = .ok (.aload_n 1, 1) := by decide +kernel
theorem dX4_readLetters_37 : decode cX4_readLetters 37 = .ok (.getfield 78, 3) := by decide +kernel
theorem dX4_readLetters_40 : decode cX4_readLetters 40 = .ok (.if_icmp .ge 53, 3) := by decide +kernel
theorem dX4_readLetters_43 : decode cX4_readLetters 43 = .ok (.aload_n 1, 1) := by decide +kernel
theorem dX4_readLetters_44 : decode cX4_readLetters 44 = .ok (.getfield 84, 3) := by decide +kernel
theorem dX4_readLetters_47 : decode cX4_readLetters 47 = .ok (.iload_n 2, 1) := by decide +kernel
theorem dX4_readLetters_48 : decode cX4_readLetters 48 = .ok (.invokestatic 87, 3) := by decide +kernel
theorem dX4_readLetters_51 : decode cX4_readLetters 51 = .ok (.bipush 97, 2) := by decide +kernel
theorem dX4_readLetters_53 : decode cX4_readLetters 53 = .ok (.isub, 1) := by decide +kernel
theorem dX4_readLetters_54 : decode cX4_readLetters 54 = .ok (.istore_n 3, 1) := by decide +kernel
theorem dX4_readLetters_55 : decode cX4_readLetters 55 = .ok (.iload_n 3, 1) := by decide +kernel
theorem dX4_readLetters_56 : decode cX4_readLetters 56 = .ok (.aload_n 0, 1) := by decide +kernel
theorem dX4_readLetters_57 : decode cX4_readLetters 57 = .ok (.getfield 48, 3) := by decide +kernel
theorem dX4_readLetters_60 : decode cX4_readLetters 60 = .ok (.if_icmp .lt 5, 3) := by decide +kernel
theorem dX4_readLetters_63 : decode cX4_readLetters 63 = .ok (.iconst 0, 1) := by decide +kernel
theorem dX4_readLetters_64 : decode cX4_readLetters 64 = .ok (.ireturn, 1) := by decide +kernel
theorem dX4_readLetters_65 : decode cX4_readLetters 65 = .ok (.aload_n 0, 1) := by decide +kernel
theorem dX4_readLetters_66 : decode cX4_readLetters 66 = .ok (.getfield 9, 3) := by decide +kernel
theorem dX4_readLetters_69 : decode cX4_readLetters 69 = .ok (.aload_n 0, 1) := by decide +kernel
theorem dX4_readLetters_70 : decode cX4_readLetters 70 = .ok (.getfield 15, 3) := by decide +kernel
theorem dX4_readLetters_73 : decode cX4_readLetters 73 = .ok (.iload_n 3, 1) := by decide +kernel
theorem dX4_readLetters_74 : decode cX4_readLetters 74 = .ok (.invokestatic 91, 3) := by decide +kernel
theorem dX4_readLetters_77 : decode cX4_readLetters 77 = .ok (.aload_n 0, 1) := by decide +kernel
theorem dX4_readLetters_78 : decode cX4_readLetters 78 = .ok (.dup, 1) := by decide +kernel
theorem dX4_readLetters_79 : decode cX4_readLetters 79 = .ok (.getfield 15, 3) := by decide +kernel
theorem dX4_readLetters_82 : decode cX4_readLetters 82 = .ok (.iconst 1, 1) := by decide +kernel
theorem dX4_readLetters_83 : decode cX4_readLetters 83 = .ok (.iadd, 1) := by decide +kernel
theorem dX4_readLetters_84 : decode cX4_readLetters 84 = .ok (.putfield 15, 3) := by decide +kernel
theorem dX4_readLetters_87 : decode cX4_readLetters 87 = .ok (.iinc 2 1, 3) := by decide +kernel
theorem dX4_readLetters_90 : decode cX4_readLetters 90 = .ok (.goto (-55), 3) := by decide +kernel
theorem dX4_readLetters_93 : decode cX4_readLetters 93 = .ok (.iconst 1, 1) := by decide +kernel
theorem dX4_readLetters_94 : decode cX4_readLetters 94 = .ok (.ireturn, 1) := by decide +kernel
theorem dX5_init_0 : decode cX5_init 0 = .ok (.aload_n 0, 1) := by decide +kernel
theorem dX5_init_1 : decode cX5_init 1 = .ok (.invokespecial 3, 3) := by decide +kernel
theorem dX5_init_4 : decode cX5_init 4 = .ok (.aload_n 0, 1) := by decide +kernel
theorem dX5_init_5 : decode cX5_init 5 = .ok (.sipush 429, 3) := by decide +kernel
theorem dX5_init_8 : decode cX5_init 8 = .ok (.newarray .int, 2) := by decide +kernel
theorem dX5_init_10 : decode cX5_init 10 = .ok (.putfield 9, 3) := by decide +kernel
theorem dX5_init_13 : decode cX5_init 13 = .ok (.return_, 1) := by decide +kernel
set_option maxRecDepth 20000 in
theorem ggX5_describe_X5_addText : GoodIn wsX5_describe wsX5_addText := goodIn_r _ [6, 7, 8, 9, 10, 11, 12, 13, 14, 15, 16, 17, 18, 19, 20, 21, 22, 23, 24, 25, 26, 27, 28, 29, 30, 31, 32, 33, 34, 35, 36, 37, 38, 39, 40, 41, 42, 43, 44, 45, 46, 47, 48, 49, 50, 51, 52, 53, 54, 55, 56, 57, 58, 5, 59, 60, 1, 61, 62, 63, 76, 77] (by decide +kernel) (by decide +kernel)
set_option maxRecDepth 20000 in
theorem gX5_describe_X5_addText : GoodIn wsX5_describe (wsV RX5 21 RX5 yX5_addText wsX5_addText) := goodIn_app (goodIn_of _ (by decide +kernel)) ggX5_describe_X5_addText
set_option maxRecDepth 20000 in
theorem ggX5_describe_X5_addNumber : GoodIn wsX5_describe wsX5_addNumber := goodIn_r _ [67, 56, 57, 58, 5, 59, 60, 1, 61, 62, 63, 76, 77] (by decide +kernel) (by decide +kernel)
set_option maxRecDepth 20000 in
theorem gX5_describe_X5_addNumber : GoodIn wsX5_describe (wsV RX5 36 RX5 yX5_addNumber wsX5_addNumber) := goodIn_app (goodIn_of _ (by decide +kernel)) ggX5_describe_X5_addNumber
set_option maxRecDepth 20000 in
theorem ggX5_describe_X7_nameOfPolicy : GoodIn wsX5_describe wsX7_nameOfPolicy := goodIn_r _ [69] (by decide +kernel) (by decide +kernel)
set_option maxRecDepth 20000 in
theorem gX5_describe_X7_nameOfPolicy_n48 : GoodIn wsX5_describe (wsX7_nameOfPolicy) := ggX5_describe_X7_nameOfPolicy
set_option maxRecDepth 20000 in
theorem ggX5_describe_X5_addSymbols : GoodIn wsX5_describe wsX5_addSymbols := goodIn_r _ [73, 74, 62, 75, 56, 57, 58, 5, 59, 60, 1, 61, 63, 78, 79, 80, 81, 82, 83, 84, 85, 86, 87, 88, 89, 90, 91, 76, 77] (by decide +kernel) (by decide +kernel)
set_option maxRecDepth 20000 in
theorem gX5_describe_X5_addSymbols : GoodIn wsX5_describe (wsV RX5 62 RX5 yX5_addSymbols wsX5_addSymbols) := goodIn_app (goodIn_of _ (by decide +kernel)) ggX5_describe_X5_addSymbols
theorem dX5_describe_0 : decode cX5_describe 0 = .ok (.aload_n 0, 1) := by decide +kernel
theorem dX5_describe_1 : decode cX5_describe 1 = .ok (.iconst 0, 1) := by decide +kernel
theorem dX5_describe_2 : decode cX5_describe 2 = .ok (.putfield 15, 3) := by decide +kernel
theorem dX5_describe_5 : decode cX5_describe 5 = .ok (.aload_n 0, 1) := by decide +kernel
theorem dX5_describe_6 : decode cX5_describe 6 = .ok (.ldc 19, 2) := by decide +kernel
theorem dX5_describe_8 : decode cX5_describe 8 = .ok (.invokevirtual 21, 3) := by decide +kernel
theorem dX5_describe_11 : decode cX5_describe 11 = .ok (.aload_n 0, 1) := by decide +kernel
theorem dX5_describe_12 : decode cX5_describe 12 = .ok (.aload_n 1, 1) := by decide +kernel
theorem dX5_describe_13 : decode cX5_describe 13 = .ok (.getfield 25, 3) := by decide +kernel
theorem dX5_describe_16 : decode cX5_describe 16 = .ok (.getfield 31, 3) := by decide +kernel
theorem dX5_describe_19 : decode cX5_describe 19 = .ok (.invokevirtual 36, 3) := by decide +kernel
theorem dX5_describe_22 : decode cX5_describe 22 = .ok (.aload_n 0, 1) := by decide +kernel
theorem dX5_describe_23 : decode cX5_describe 23 = .ok (.ldc 40, 2) := by decide +kernel
theorem dX5_describe_25 : decode cX5_describe 25 = .ok (.invokevirtual 21, 3) := by decide +kernel
theorem dX5_describe_28 : decode cX5_describe 28 = .ok (.aload_n 0, 1) := by decide +kernel
theorem dX5_describe_29 : decode cX5_describe 29 = .ok (.aload_n 1, 1) := by decide +kernel
theorem dX5_describe_30 : decode cX5_describe 30 = .ok (.getfield 25, 3) := by decide +kernel
theorem dX5_describe_33 : decode cX5_describe 33 = .ok (.getfield 42, 3) := by decide +kernel
theorem dX5_describe_36 : decode cX5_describe 36 = .ok (.invokevirtual 36, 3) := by decide +kernel
theorem dX5_describe_39 : decode cX5_describe 39 = .ok (.aload_n 0, 1) := by decide +kernel
theorem dX5_describe_40 : decode cX5_describe 40 = .ok (.ldc 40, 2) := by decide +kernel
theorem dX5_describe_42 : decode cX5_describe 42 = .ok (.invokevirtual 21, 3) := by decide +kernel
theorem dX5_describe_45 : decode cX5_describe 45 = .ok (.aload_n 0, 1) := by decide +kernel
theorem dX5_describe_46 : decode cX5_describe 46 = .ok (.aload_n 1, 1) := by decide +kernel
theorem dX5_describe_47 : decode cX5_describe 47 = .ok (.getfield 45, 3) := by decide +kernel
theorem dX5_describe_50 : decode cX5_describe 50 = .ok (.invokestatic 48, 3) := by decide +kernel
theorem dX5_describe_53 : decode cX5_describe 53 = .ok (.invokevirtual 21, 3) := by decide +kernel
theorem dX5_describe_56 : decode cX5_describe 56 = .ok (.aload_n 0, 1) := by decide +kernel
theorem dX5_describe_57 : decode cX5_describe 57 = .ok (.ldc 40, 2) := by decide +kernel
theorem dX5_describe_59 : decode cX5_describe 59 = .ok (.invokevirtual 21, 3) := by decide +kernel
theorem dX5_describe_62 : decode cX5_describe 62 = .ok (.aload_n 0, 1) := by decide +kernel
theorem dX5_describe_63 : decode cX5_describe 63 = .ok (.aload_n 1, 1) := by decide +kernel
theorem dX5_describe_64 : decode cX5_describe 64 = .ok (.getfield 52, 3) := by decide +kernel
theorem dX5_describe_67 : decode cX5_describe 67 = .ok (.invokevirtual 36, 3) := by decide +kernel
theorem dX5_describe_70 : decode cX5_describe 70 = .ok (.aload_n 0, 1) := by decide +kernel
theorem dX5_describe_71 : decode cX5_describe 71 = .ok (.ldc 55, 2) := by decide +kernel
theorem dX5_describe_73 : decode cX5_describe 73 = .ok (.invokevirtual 21, 3) := by decide +kernel
theorem dX5_describe_76 : decode cX5_describe 76 = .ok (.aload_n 1, 1) := by decide +kernel
theorem dX5_describe_77 : decode cX5_describe 77 = .ok (.getfield 57, 3) := by decide +kernel
theorem dX5_describe_80 : decode cX5_describe 80 = .ok (.ifCond .le 20, 3) := by decide +kernel
theorem dX5_describe_83 : decode cX5_describe 83 = .ok (.aload_n 0, 1) := by decide +kernel
theorem dX5_describe_84 : decode cX5_describe 84 = .ok (.ldc 60, 2) := by decide +kernel
theorem dX5_describe_86 : decode cX5_describe 86 = .ok (.invokevirtual 21, 3) := by decide +kernel
theorem dX5_describe_89 : decode cX5_describe 89 = .ok (.aload_n 0, 1) := by decide +kernel
theorem dX5_describe_90 : decode cX5_describe 90 = .ok (.aload_n 1, 1) := by decide +kernel
theorem dX5_describe_91 : decode cX5_describe 91 = .ok (.invokevirtual 62, 3) := by decide +kernel
theorem dX5_describe_94 : decode cX5_describe 94 = .ok (.aload_n 0, 1) := by decide +kernel
theorem dX5_describe_95 : decode cX5_describe 95 = .ok (.ldc 55, 2) := by decide +kernel
theorem dX5_describe_97 : decode cX5_describe 97 = .ok (.invokevirtual 21, 3) := by decide +kernel
theorem dX5_describe_100 : decode cX5_describe 100 = .ok (.return_, 1) := by decide +kernel
set_option maxRecDepth 20000 in
theorem ggX5_addSymbols_X7_at : GoodIn wsX5_addSymbols wsX7_at := goodIn_r _ [3] (by decide +kernel) (by decide +kernel)
set_option maxRecDepth 20000 in
theorem gX5_addSymbols_X7_at_n69 : GoodIn wsX5_addSymbols (wsX7_at) := ggX5_addSymbols_X7_at
set_option maxRecDepth 20000 in
theorem ggX5_addSymbols_X5_addSign : GoodIn wsX5_addSymbols wsX5_addSign := goodIn_r _ [8, 9, 10, 11, 2, 12, 27, 28] (by decide +kernel) (by decide +kernel)
set_option maxRecDepth 20000 in
theorem gX5_addSymbols_X5_addSign : GoodIn wsX5_addSymbols (wsV RX5 73 RX5 yX5_addSign wsX5_addSign) := goodIn_app (goodIn_of _ (by decide +kernel)) ggX5_addSymbols_X5_addSign
theorem dX5_addSymbols_0 : decode cX5_addSymbols 0 = .ok (.iconst 0, 1) := by decide +kernel
theorem dX5_addSymbols_1 : decode cX5_addSymbols 1 = .ok (.istore_n 2, 1) := by decide +kernel
theorem dX5_addSymbols_2 : decode cX5_addSymbols 2 = .ok (.iload_n 2, 1) := by decide +kernel
theorem dX5_addSymbols_3 : decode cX5_addSymbols 3 = .ok (.aload_n 1, 1) := by decide +kernel
theorem dX5_addSymbols_4 : decode cX5_addSymbols 4 = .ok (.getfield 57, 3) := by decide +kernel
theorem dX5_addSymbols_7 : decode cX5_addSymbols 7 = .ok (.if_icmp .ge 24, 3) := by decide +kernel
theorem dX5_addSymbols_10 : decode cX5_addSymbols 10 = .ok (.aload_n 0, 1) := by decide +kernel
theorem dX5_addSymbols_11 : decode cX5_addSymbols 11 = .ok (.bipush 97, 2) := by decide +kernel
theorem dX5_addSymbols_13 : decode cX5_addSymbols 13 = .ok (.aload_n 1, 1) := by decide +kernel
theorem dX5_addSymbols_14 : decode cX5_addSymbols 14 = .ok (.getfield 66, 3) := by decide +kernel
theorem dX5_addSymbols_17 : decode cX5_addSymbols 17 = .ok (.iload_n 2, 1) := by decide +kernel
theorem dX5_addSymbols_18 : decode cX5_addSymbols 18 = .ok (.invokestatic 69, 3) := by decide +kernel
theorem dX5_addSymbols_21 : decode cX5_addSymbols 21 = .ok (.iadd, 1) := by decide +kernel
theorem dX5_addSymbols_22 : decode cX5_addSymbols 22 = .ok (.invokevirtual 73, 3) := by decide +kernel
theorem dX5_addSymbols_25 : decode cX5_addSymbols 25 = .ok (.iinc 2 1, 3) := by decide +kernel
theorem dX5_addSymbols_28 : decode cX5_addSymbols 28 = .ok (.goto (-26), 3) := by decide +kernel
theorem dX5_addSymbols_31 : decode cX5_addSymbols 31 = .ok (.return_, 1) := by decide +kernel
set_option maxRecDepth 20000 in
theorem ggX5_addText_J0_length_8abf5 : GoodIn wsX5_addText wsJ0_length_8abf5 := goodIn_r _ [5, 6, 7, 8, 9, 4, 10, 11, 12] (by decide +kernel) (by decide +kernel)
set_option maxRecDepth 20000 in
theorem gX5_addText_J0_length_8abf5 : GoodIn wsX5_addText (wsV RX5 76 RJ0 yJ0_length_8abf5 wsJ0_length_8abf5) := goodIn_app (goodIn_of _ (by decide +kernel)) ggX5_addText_J0_length_8abf5
set_option maxRecDepth 20000 in
theorem ggX5_addText_J0_charAt_5068e : GoodIn wsX5_addText wsJ0_charAt_5068e := goodIn_r _ [16, 6, 17, 18, 19, 4, 20, 11, 12, 21, 22, 23, 24, 25, 26, 27, 28, 29, 30, 31, 32, 33, 34, 35, 36, 37, 38, 39, 40, 41, 42, 43, 44, 45, 46, 47, 48, 49] (by decide +kernel) (by decide +kernel)
set_option maxRecDepth 20000 in
theorem gX5_addText_J0_charAt_5068e : GoodIn wsX5_addText (wsV RX5 81 RJ0 yJ0_charAt_5068e wsJ0_charAt_5068e) := goodIn_app (goodIn_of _ (by decide +kernel)) ggX5_addText_J0_charAt_5068e
set_option maxRecDepth 20000 in
theorem ggX5_addText_X5_addSign : GoodIn wsX5_addText wsX5_addSign := goodIn_r _ [54, 55, 56, 57, 58, 59, 60, 61] (by decide +kernel) (by decide +kernel)
set_option maxRecDepth 20000 in
theorem gX5_addText_X5_addSign : GoodIn wsX5_addText (wsV RX5 73 RX5 yX5_addSign wsX5_addSign) := goodIn_app (goodIn_of _ (by decide +kernel)) ggX5_addText_X5_addSign
theorem dX5_addText_0 : decode cX5_addText 0 = .ok (.iconst 0, 1) := by decide +kernel
theorem dX5_addText_1 : decode cX5_addText 1 = .ok (.istore_n 2, 1) := by decide +kernel
theorem dX5_addText_2 : decode cX5_addText 2 = .ok (.iload_n 2, 1) := by decide +kernel
theorem dX5_addText_3 : decode cX5_addText 3 = .ok (.aload_n 1, 1) := by decide +kernel
theorem dX5_addText_4 : decode cX5_addText 4 = .ok (.invokevirtual 76, 3) := by decide +kernel
theorem dX5_addText_7 : decode cX5_addText 7 = .ok (.if_icmp .ge 18, 3) := by decide +kernel
theorem dX5_addText_10 : decode cX5_addText 10 = .ok (.aload_n 0, 1) := by decide +kernel
theorem dX5_addText_11 : decode cX5_addText 11 = .ok (.aload_n 1, 1) := by decide +kernel
theorem dX5_addText_12 : decode cX5_addText 12 = .ok (.iload_n 2, 1) := by decide +kernel
theorem dX5_addText_13 : decode cX5_addText 13 = .ok (.invokevirtual 81, 3) := by decide +kernel
theorem dX5_addText_16 : decode cX5_addText 16 = .ok (.invokevirtual 73, 3) := by decide +kernel
theorem dX5_addText_19 : decode cX5_addText 19 = .ok (.iinc 2 1, 3) := by decide +kernel
theorem dX5_addText_22 : decode cX5_addText 22 = .ok (.goto (-20), 3) := by decide +kernel
theorem dX5_addText_25 : decode cX5_addText 25 = .ok (.return_, 1) := by decide +kernel
set_option maxRecDepth 20000 in
theorem ggX5_addNumber_X5_addSign : GoodIn wsX5_addNumber wsX5_addSign := goodIn_r _ [5, 6, 7, 8, 9, 10, 11, 12] (by decide +kernel) (by decide +kernel)
set_option maxRecDepth 20000 in
theorem gX5_addNumber_X5_addSign : GoodIn wsX5_addNumber (wsV RX5 73 RX5 yX5_addSign wsX5_addSign) := goodIn_app (goodIn_of _ (by decide +kernel)) ggX5_addNumber_X5_addSign
theorem dX5_addNumber_0 : decode cX5_addNumber 0 = .ok (.iload_n 1, 1) := by decide +kernel
theorem dX5_addNumber_1 : decode cX5_addNumber 1 = .ok (.bipush 100, 2) := by decide +kernel
theorem dX5_addNumber_3 : decode cX5_addNumber 3 = .ok (.if_icmp .lt 14, 3) := by decide +kernel
theorem dX5_addNumber_6 : decode cX5_addNumber 6 = .ok (.aload_n 0, 1) := by decide +kernel
theorem dX5_addNumber_7 : decode cX5_addNumber 7 = .ok (.bipush 48, 2) := by decide +kernel
theorem dX5_addNumber_9 : decode cX5_addNumber 9 = .ok (.iload_n 1, 1) := by decide +kernel
theorem dX5_addNumber_10 : decode cX5_addNumber 10 = .ok (.bipush 100, 2) := by decide +kernel
theorem dX5_addNumber_12 : decode cX5_addNumber 12 = .ok (.idiv, 1) := by decide +kernel
theorem dX5_addNumber_13 : decode cX5_addNumber 13 = .ok (.iadd, 1) := by decide +kernel
theorem dX5_addNumber_14 : decode cX5_addNumber 14 = .ok (.invokevirtual 73, 3) := by decide +kernel
theorem dX5_addNumber_17 : decode cX5_addNumber 17 = .ok (.iload_n 1, 1) := by decide +kernel
theorem dX5_addNumber_18 : decode cX5_addNumber 18 = .ok (.bipush 10, 2) := by decide +kernel
theorem dX5_addNumber_20 : decode cX5_addNumber 20 = .ok (.if_icmp .lt 17, 3) := by decide +kernel
theorem dX5_addNumber_23 : decode cX5_addNumber 23 = .ok (.aload_n 0, 1) := by decide +kernel
theorem dX5_addNumber_24 : decode cX5_addNumber 24 = .ok (.bipush 48, 2) := by decide +kernel
theorem dX5_addNumber_26 : decode cX5_addNumber 26 = .ok (.iload_n 1, 1) := by decide +kernel
theorem dX5_addNumber_27 : decode cX5_addNumber 27 = .ok (.bipush 10, 2) := by decide +kernel
theorem dX5_addNumber_29 : decode cX5_addNumber 29 = .ok (.idiv, 1) := by decide +kernel
theorem dX5_addNumber_30 : decode cX5_addNumber 30 = .ok (.bipush 10, 2) := by decide +kernel
theorem dX5_addNumber_32 : decode cX5_addNumber 32 = .ok (.irem, 1) := by decide +kernel
theorem dX5_addNumber_33 : decode cX5_addNumber 33 = .ok (.iadd, 1) := by decide +kernel
theorem dX5_addNumber_34 : decode cX5_addNumber 34 = .ok (.invokevirtual 73, 3) := by decide +kernel
theorem dX5_addNumber_37 : decode cX5_addNumber 37 = .ok (.aload_n 0, 1) := by decide +kernel
theorem dX5_addNumber_38 : decode cX5_addNumber 38 = .ok (.bipush 48, 2) := by decide +kernel
theorem dX5_addNumber_40 : decode cX5_addNumber 40 = .ok (.iload_n 1, 1) := by decide +kernel
theorem dX5_addNumber_41 : decode cX5_addNumber 41 = .ok (.bipush 10, 2) := by decide +kernel
theorem dX5_addNumber_43 : decode cX5_addNumber 43 = .ok (.irem, 1) := by decide +kernel
theorem dX5_addNumber_44 : decode cX5_addNumber 44 = .ok (.iadd, 1) := by decide +kernel
theorem dX5_addNumber_45 : decode cX5_addNumber 45 = .ok (.invokevirtual 73, 3) := by decide +kernel
theorem dX5_addNumber_48 : decode cX5_addNumber 48 = .ok (.return_, 1) := by decide +kernel
set_option maxRecDepth 20000 in
theorem ggX5_addSign_X7_put : GoodIn wsX5_addSign wsX7_put := goodIn_r _ [5] (by decide +kernel) (by decide +kernel)
set_option maxRecDepth 20000 in
theorem gX5_addSign_X7_put_n85 : GoodIn wsX5_addSign (wsX7_put) := ggX5_addSign_X7_put
theorem dX5_addSign_0 : decode cX5_addSign 0 = .ok (.aload_n 0, 1) := by decide +kernel
theorem dX5_addSign_1 : decode cX5_addSign 1 = .ok (.getfield 9, 3) := by decide +kernel
theorem dX5_addSign_4 : decode cX5_addSign 4 = .ok (.aload_n 0, 1) := by decide +kernel
theorem dX5_addSign_5 : decode cX5_addSign 5 = .ok (.getfield 15, 3) := by decide +kernel
theorem dX5_addSign_8 : decode cX5_addSign 8 = .ok (.iload_n 1, 1) := by decide +kernel
theorem dX5_addSign_9 : decode cX5_addSign 9 = .ok (.invokestatic 85, 3) := by decide +kernel
theorem dX5_addSign_12 : decode cX5_addSign 12 = .ok (.aload_n 0, 1) := by decide +kernel
theorem dX5_addSign_13 : decode cX5_addSign 13 = .ok (.dup, 1) := by decide +kernel
theorem dX5_addSign_14 : decode cX5_addSign 14 = .ok (.getfield 15, 3) := by decide +kernel
theorem dX5_addSign_17 : decode cX5_addSign 17 = .ok (.iconst 1, 1) := by decide +kernel
theorem dX5_addSign_18 : decode cX5_addSign 18 = .ok (.iadd, 1) := by decide +kernel
theorem dX5_addSign_19 : decode cX5_addSign 19 = .ok (.putfield 15, 3) := by decide +kernel
theorem dX5_addSign_22 : decode cX5_addSign 22 = .ok (.return_, 1) := by decide +kernel
theorem dX6_init_0 : decode cX6_init 0 = .ok (.aload_n 0, 1) := by decide +kernel
theorem dX6_init_1 : decode cX6_init 1 = .ok (.invokespecial 3, 3) := by decide +kernel
theorem dX6_init_4 : decode cX6_init 4 = .ok (.aload_n 0, 1) := by decide +kernel
theorem dX6_init_5 : decode cX6_init 5 = .ok (.iconst 0, 1) := by decide +kernel
theorem dX6_init_6 : decode cX6_init 6 = .ok (.newarray .int, 2) := by decide +kernel
theorem dX6_init_8 : decode cX6_init 8 = .ok (.putfield 9, 3) := by decide +kernel
theorem dX6_init_11 : decode cX6_init 11 = .ok (.aload_n 0, 1) := by decide +kernel
theorem dX6_init_12 : decode cX6_init 12 = .ok (.iconst 0, 1) := by decide +kernel
theorem dX6_init_13 : decode cX6_init 13 = .ok (.putfield 15, 3) := by decide +kernel
theorem dX6_init_16 : decode cX6_init 16 = .ok (.return_, 1) := by decide +kernel
theorem dX6_begin_0 : decode cX6_begin 0 = .ok (.aload_n 0, 1) := by decide +kernel
theorem dX6_begin_1 : decode cX6_begin 1 = .ok (.aload_n 1, 1) := by decide +kernel
theorem dX6_begin_2 : decode cX6_begin 2 = .ok (.putfield 9, 3) := by decide +kernel
theorem dX6_begin_5 : decode cX6_begin 5 = .ok (.aload_n 0, 1) := by decide +kernel
theorem dX6_begin_6 : decode cX6_begin 6 = .ok (.iload_n 2, 1) := by decide +kernel
theorem dX6_begin_7 : decode cX6_begin 7 = .ok (.putfield 19, 3) := by decide +kernel
theorem dX6_begin_10 : decode cX6_begin 10 = .ok (.aload_n 0, 1) := by decide +kernel
theorem dX6_begin_11 : decode cX6_begin 11 = .ok (.iconst 0, 1) := by decide +kernel
theorem dX6_begin_12 : decode cX6_begin 12 = .ok (.putfield 15, 3) := by decide +kernel
theorem dX6_begin_15 : decode cX6_begin 15 = .ok (.aload_n 0, 1) := by decide +kernel
theorem dX6_begin_16 : decode cX6_begin 16 = .ok (.iconst 0, 1) := by decide +kernel
theorem dX6_begin_17 : decode cX6_begin 17 = .ok (.putfield 22, 3) := by decide +kernel
theorem dX6_begin_20 : decode cX6_begin 20 = .ok (.aload_n 0, 1) := by decide +kernel
theorem dX6_begin_21 : decode cX6_begin 21 = .ok (.iconst 0, 1) := by decide +kernel
theorem dX6_begin_22 : decode cX6_begin 22 = .ok (.putfield 25, 3) := by decide +kernel
theorem dX6_begin_25 : decode cX6_begin 25 = .ok (.return_, 1) := by decide +kernel
set_option maxRecDepth 20000 in
theorem ggX6_step_X7_at : GoodIn wsX6_step wsX7_at := goodIn_r _ [8] (by decide +kernel) (by decide +kernel)
set_option maxRecDepth 20000 in
theorem gX6_step_X7_at_n28 : GoodIn wsX6_step (wsX7_at) := ggX6_step_X7_at
set_option maxRecDepth 20000 in
theorem ggX6_step_X6_isBlank : GoodIn wsX6_step wsX6_isBlank := goodIn_r _ [12] (by decide +kernel) (by decide +kernel)
set_option maxRecDepth 20000 in
theorem gX6_step_X6_isBlank : GoodIn wsX6_step (va_wsS RX6 32 yX6_isBlank wsX6_isBlank) := goodIn_app (goodIn_of _ (by decide +kernel)) ggX6_step_X6_isBlank
set_option maxRecDepth 20000 in
theorem ggX6_step_X6_isLetter : GoodIn wsX6_step wsX6_isLetter := goodIn_r _ [15] (by decide +kernel) (by decide +kernel)
set_option maxRecDepth 20000 in
theorem gX6_step_X6_isLetter : GoodIn wsX6_step (va_wsS RX6 36 yX6_isLetter wsX6_isLetter) := goodIn_app (goodIn_of _ (by decide +kernel)) ggX6_step_X6_isLetter
set_option maxRecDepth 20000 in
theorem ggX6_step_X6_readWord : GoodIn wsX6_step wsX6_readWord := goodIn_r _ [19, 1, 3, 4, 5, 6, 7, 8, 13, 14, 11, 15, 27, 28, 29, 30, 31] (by decide +kernel) (by decide +kernel)
set_option maxRecDepth 20000 in
theorem gX6_step_X6_readWord : GoodIn wsX6_step (wsV RX6 39 RX6 yX6_readWord wsX6_readWord) := goodIn_app (goodIn_of _ (by decide +kernel)) ggX6_step_X6_readWord
set_option maxRecDepth 20000 in
theorem ggX6_step_X6_isDigit : GoodIn wsX6_step wsX6_isDigit := goodIn_r _ [22] (by decide +kernel) (by decide +kernel)
set_option maxRecDepth 20000 in
theorem gX6_step_X6_isDigit : GoodIn wsX6_step (va_wsS RX6 42 yX6_isDigit wsX6_isDigit) := goodIn_app (goodIn_of _ (by decide +kernel)) ggX6_step_X6_isDigit
set_option maxRecDepth 20000 in
theorem ggX6_step_X6_readNumber : GoodIn wsX6_step wsX6_readNumber := goodIn_r _ [26, 1, 3, 4, 2, 5, 6, 7, 8, 20, 21, 11, 22, 27, 28, 29, 30, 31] (by decide +kernel) (by decide +kernel)
set_option maxRecDepth 20000 in
theorem gX6_step_X6_readNumber : GoodIn wsX6_step (wsV RX6 45 RX6 yX6_readNumber wsX6_readNumber) := goodIn_app (goodIn_of _ (by decide +kernel)) ggX6_step_X6_readNumber
theorem dX6_step_0 : decode cX6_step 0 = .ok (.aload_n 0, 1) := by decide +kernel
theorem dX6_step_1 : decode cX6_step 1 = .ok (.aload_n 0, 1) := by decide +kernel
theorem dX6_step_2 : decode cX6_step 2 = .ok (.getfield 25, 3) := by decide +kernel
theorem dX6_step_5 : decode cX6_step 5 = .ok (.putfield 22, 3) := by decide +kernel
theorem dX6_step_8 : decode cX6_step 8 = .ok (.aload_n 0, 1) := by decide +kernel
theorem dX6_step_9 : decode cX6_step 9 = .ok (.getfield 22, 3) := by decide +kernel
theorem dX6_step_12 : decode cX6_step 12 = .ok (.aload_n 0, 1) := by decide +kernel
theorem dX6_step_13 : decode cX6_step 13 = .ok (.getfield 19, 3) := by decide +kernel
theorem dX6_step_16 : decode cX6_step 16 = .ok (.if_icmp .ge 33, 3) := by decide +kernel
theorem dX6_step_19 : decode cX6_step 19 = .ok (.aload_n 0, 1) := by decide +kernel
theorem dX6_step_20 : decode cX6_step 20 = .ok (.getfield 9, 3) := by decide +kernel
theorem dX6_step_23 : decode cX6_step 23 = .ok (.aload_n 0, 1) := by decide +kernel
theorem dX6_step_24 : decode cX6_step 24 = .ok (.getfield 22, 3) := by decide +kernel
theorem dX6_step_27 : decode cX6_step 27 = .ok (.invokestatic 28, 3) := by decide +kernel
theorem dX6_step_30 : decode cX6_step 30 = .ok (.invokestatic 32, 3) := by decide +kernel
theorem dX6_step_33 : decode cX6_step 33 = .ok (.ifCond .eq 16, 3) := by decide +kernel
theorem dX6_step_36 : decode cX6_step 36 = .ok (.aload_n 0, 1) := by decide +kernel
theorem dX6_step_37 : decode cX6_step 37 = .ok (.dup, 1) := by decide +kernel
theorem dX6_step_38 : decode cX6_step 38 = .ok (.getfield 22, 3) := by decide +kernel
theorem dX6_step_41 : decode cX6_step 41 = .ok (.iconst 1, 1) := by decide +kernel
theorem dX6_step_42 : decode cX6_step 42 = .ok (.iadd, 1) := by decide +kernel
theorem dX6_step_43 : decode cX6_step 43 = .ok (.putfield 22, 3) := by decide +kernel
theorem dX6_step_46 : decode cX6_step 46 = .ok (.goto (-38), 3) := by decide +kernel
theorem dX6_step_49 : decode cX6_step 49 = .ok (.aload_n 0, 1) := by decide +kernel
theorem dX6_step_50 : decode cX6_step 50 = .ok (.aload_n 0, 1) := by decide +kernel
theorem dX6_step_51 : decode cX6_step 51 = .ok (.getfield 22, 3) := by decide +kernel
theorem dX6_step_54 : decode cX6_step 54 = .ok (.putfield 25, 3) := by decide +kernel
theorem dX6_step_57 : decode cX6_step 57 = .ok (.aload_n 0, 1) := by decide +kernel
theorem dX6_step_58 : decode cX6_step 58 = .ok (.getfield 22, 3) := by decide +kernel
theorem dX6_step_61 : decode cX6_step 61 = .ok (.aload_n 0, 1) := by decide +kernel
theorem dX6_step_62 : decode cX6_step 62 = .ok (.getfield 19, 3) := by decide +kernel
theorem dX6_step_65 : decode cX6_step 65 = .ok (.if_icmp .lt 11, 3) := by decide +kernel
theorem dX6_step_68 : decode cX6_step 68 = .ok (.aload_n 0, 1) := by decide +kernel
theorem dX6_step_69 : decode cX6_step 69 = .ok (.iconst 0, 1) := by decide +kernel
theorem dX6_step_70 : decode cX6_step 70 = .ok (.putfield 15, 3) := by decide +kernel
theorem dX6_step_73 : decode cX6_step 73 = .ok (.goto 86, 3) := by decide +kernel
theorem dX6_step_76 : decode cX6_step 76 = .ok (.aload_n 0, 1) := by decide +kernel
theorem dX6_step_77 : decode cX6_step 77 = .ok (.getfield 9, 3) := by decide +kernel
theorem dX6_step_80 : decode cX6_step 80 = .ok (.aload_n 0, 1) := by decide +kernel
theorem dX6_step_81 : decode cX6_step 81 = .ok (.getfield 22, 3) := by decide +kernel
theorem dX6_step_84 : decode cX6_step 84 = .ok (.invokestatic 28, 3) := by decide +kernel
theorem dX6_step_87 : decode cX6_step 87 = .ok (.invokestatic 36, 3) := by decide +kernel
theorem dX6_step_90 : decode cX6_step 90 = .ok (.ifCond .eq 10, 3) := by decide +kernel
theorem dX6_step_93 : decode cX6_step 93 = .ok (.aload_n 0, 1) := by decide +kernel
theorem dX6_step_94 : decode cX6_step 94 = .ok (.invokevirtual 39, 3) := by decide +kernel
theorem dX6_step_97 : decode cX6_step 97 = .ok (.goto 62, 3) := by decide +kernel
theorem dX6_step_100 : decode cX6_step 100 = .ok (.aload_n 0, 1) := by decide +kernel
theorem dX6_step_101 : decode cX6_step 101 = .ok (.getfield 9, 3) := by decide +kernel
theorem dX6_step_104 : decode cX6_step 104 = .ok (.aload_n 0, 1) := by decide +kernel
theorem dX6_step_105 : decode cX6_step 105 = .ok (.getfield 22, 3) := by decide +kernel
theorem dX6_step_108 : decode cX6_step 108 = .ok (.invokestatic 28, 3) := by decide +kernel
theorem dX6_step_111 : decode cX6_step 111 = .ok (.invokestatic 42, 3) := by decide +kernel
theorem dX6_step_114 : decode cX6_step 114 = .ok (.ifCond .eq 10, 3) := by decide +kernel
theorem dX6_step_117 : decode cX6_step 117 = .ok (.aload_n 0, 1) := by decide +kernel
theorem dX6_step_118 : decode cX6_step 118 = .ok (.invokevirtual 45, 3) := by decide +kernel
theorem dX6_step_121 : decode cX6_step 121 = .ok (.goto 38, 3) := by decide +kernel
theorem dX6_step_124 : decode cX6_step 124 = .ok (.aload_n 0, 1) := by decide +kernel
theorem dX6_step_125 : decode cX6_step 125 = .ok (.aload_n 0, 1) := by decide +kernel
theorem dX6_step_126 : decode cX6_step 126 = .ok (.getfield 9, 3) := by decide +kernel
theorem dX6_step_129 : decode cX6_step 129 = .ok (.aload_n 0, 1) := by decide +kernel
theorem dX6_step_130 : decode cX6_step 130 = .ok (.getfield 22, 3) := by decide +kernel
theorem dX6_step_133 : decode cX6_step 133 = .ok (.invokestatic 28, 3) := by decide +kernel
theorem dX6_step_136 : decode cX6_step 136 = .ok (.bipush 59, 2) := by decide +kernel
theorem dX6_step_138 : decode cX6_step 138 = .ok (.if_icmp .ne 7, 3) := by decide +kernel
theorem dX6_step_141 : decode cX6_step 141 = .ok (.iconst 3, 1) := by decide +kernel
theorem dX6_step_142 : decode cX6_step 142 = .ok (.goto 4, 3) := by decide +kernel
theorem dX6_step_145 : decode cX6_step 145 = .ok (.iconst 4, 1) := by decide +kernel
theorem dX6_step_146 : decode cX6_step 146 = .ok (.putfield 15, 3) := by decide +kernel
theorem dX6_step_149 : decode cX6_step 149 = .ok (.aload_n 0, 1) := by decide +kernel
theorem dX6_step_150 : decode cX6_step 150 = .ok (.aload_n 0, 1) := by decide +kernel
theorem dX6_step_151 : decode cX6_step 151 = .ok (.getfield 22, 3) := by decide +kernel
theorem dX6_step_154 : decode cX6_step 154 = .ok (.iconst 1, 1) := by decide +kernel
theorem dX6_step_155 : decode cX6_step 155 = .ok (.iadd, 1) := by decide +kernel
theorem dX6_step_156 : decode cX6_step 156 = .ok (.putfield 25, 3) := by decide +kernel
theorem dX6_step_159 : decode cX6_step 159 = .ok (.return_, 1) := by decide +kernel
set_option maxRecDepth 20000 in
theorem ggX6_readWord_X7_at : GoodIn wsX6_readWord wsX7_at := goodIn_r _ [7] (by decide +kernel) (by decide +kernel)
set_option maxRecDepth 20000 in
theorem gX6_readWord_X7_at_n28 : GoodIn wsX6_readWord (wsX7_at) := ggX6_readWord_X7_at
set_option maxRecDepth 20000 in
theorem ggX6_readWord_X6_isLetter : GoodIn wsX6_readWord wsX6_isLetter := goodIn_r _ [11] (by decide +kernel) (by decide +kernel)
set_option maxRecDepth 20000 in
theorem gX6_readWord_X6_isLetter : GoodIn wsX6_readWord (va_wsS RX6 36 yX6_isLetter wsX6_isLetter) := goodIn_app (goodIn_of _ (by decide +kernel)) ggX6_readWord_X6_isLetter
theorem dX6_readWord_0 : decode cX6_readWord 0 = .ok (.aload_n 0, 1) := by decide +kernel
theorem dX6_readWord_1 : decode cX6_readWord 1 = .ok (.getfield 25, 3) := by decide +kernel
theorem dX6_readWord_4 : decode cX6_readWord 4 = .ok (.aload_n 0, 1) := by decide +kernel
theorem dX6_readWord_5 : decode cX6_readWord 5 = .ok (.getfield 19, 3) := by decide +kernel
theorem dX6_readWord_8 : decode cX6_readWord 8 = .ok (.if_icmp .ge 33, 3) := by decide +kernel
theorem dX6_readWord_11 : decode cX6_readWord 11 = .ok (.aload_n 0, 1) := by decide +kernel
theorem dX6_readWord_12 : decode cX6_readWord 12 = .ok (.getfield 9, 3) := by decide +kernel
theorem dX6_readWord_15 : decode cX6_readWord 15 = .ok (.aload_n 0, 1) := by decide +kernel
theorem dX6_readWord_16 : decode cX6_readWord 16 = .ok (.getfield 25, 3) := by decide +kernel
theorem dX6_readWord_19 : decode cX6_readWord 19 = .ok (.invokestatic 28, 3) := by decide +kernel
theorem dX6_readWord_22 : decode cX6_readWord 22 = .ok (.invokestatic 36, 3) := by decide +kernel
theorem dX6_readWord_25 : decode cX6_readWord 25 = .ok (.ifCond .eq 16, 3) := by decide +kernel
theorem dX6_readWord_28 : decode cX6_readWord 28 = .ok (.aload_n 0, 1) := by decide +kernel
theorem dX6_readWord_29 : decode cX6_readWord 29 = .ok (.dup, 1) := by decide +kernel
theorem dX6_readWord_30 : decode cX6_readWord 30 = .ok (.getfield 25, 3) := by decide +kernel
theorem dX6_readWord_33 : decode cX6_readWord 33 = .ok (.iconst 1, 1) := by decide +kernel
theorem dX6_readWord_34 : decode cX6_readWord 34 = .ok (.iadd, 1) := by decide +kernel
theorem dX6_readWord_35 : decode cX6_readWord 35 = .ok (.putfield 25, 3) := by decide +kernel
theorem dX6_readWord_38 : decode cX6_readWord 38 = .ok (.goto (-38), 3) := by decide +kernel
theorem dX6_readWord_41 : decode cX6_readWord 41 = .ok (.aload_n 0, 1) := by decide +kernel
theorem dX6_readWord_42 : decode cX6_readWord 42 = .ok (.iconst 1, 1) := by decide +kernel
theorem dX6_readWord_43 : decode cX6_readWord 43 = .ok (.putfield 15, 3) := by decide +kernel
theorem dX6_readWord_46 : decode cX6_readWord 46 = .ok (.return_, 1) := by decide +kernel
set_option maxRecDepth 20000 in
theorem ggX6_readNumber_X7_at : GoodIn wsX6_readNumber wsX7_at := goodIn_r _ [8] (by decide +kernel) (by decide +kernel)
set_option maxRecDepth 20000 in
theorem gX6_readNumber_X7_at_n28 : GoodIn wsX6_readNumber (wsX7_at) := ggX6_readNumber_X7_at
set_option maxRecDepth 20000 in
theorem ggX6_readNumber_X6_isDigit : GoodIn wsX6_readNumber wsX6_isDigit := goodIn_r _ [12] (by decide +kernel) (by decide +kernel)
set_option maxRecDepth 20000 in
theorem gX6_readNumber_X6_isDigit : GoodIn wsX6_readNumber (va_wsS RX6 42 yX6_isDigit wsX6_isDigit) := goodIn_app (goodIn_of _ (by decide +kernel)) ggX6_readNumber_X6_isDigit
theorem dX6_readNumber_0 : decode cX6_readNumber 0 = .ok (.aload_n 0, 1) := by decide +kernel
theorem dX6_readNumber_1 : decode cX6_readNumber 1 = .ok (.getfield 25, 3) := by decide +kernel
theorem dX6_readNumber_4 : decode cX6_readNumber 4 = .ok (.aload_n 0, 1) := by decide +kernel
theorem dX6_readNumber_5 : decode cX6_readNumber 5 = .ok (.getfield 19, 3) := by decide +kernel
theorem dX6_readNumber_8 : decode cX6_readNumber 8 = .ok (.if_icmp .ge 33, 3) := by decide +kernel
theorem dX6_readNumber_11 : decode cX6_readNumber 11 = .ok (.aload_n 0, 1) := by decide +kernel
theorem dX6_readNumber_12 : decode cX6_readNumber 12 = .ok (.getfield 9, 3) := by decide +kernel
theorem dX6_readNumber_15 : decode cX6_readNumber 15 = .ok (.aload_n 0, 1) := by decide +kernel
theorem dX6_readNumber_16 : decode cX6_readNumber 16 = .ok (.getfield 25, 3) := by decide +kernel
theorem dX6_readNumber_19 : decode cX6_readNumber 19 = .ok (.invokestatic 28, 3) := by decide +kernel
theorem dX6_readNumber_22 : decode cX6_readNumber 22 = .ok (.invokestatic 42, 3) := by decide +kernel
theorem dX6_readNumber_25 : decode cX6_readNumber 25 = .ok (.ifCond .eq 16, 3) := by decide +kernel
theorem dX6_readNumber_28 : decode cX6_readNumber 28 = .ok (.aload_n 0, 1) := by decide +kernel
theorem dX6_readNumber_29 : decode cX6_readNumber 29 = .ok (.dup, 1) := by decide +kernel
theorem dX6_readNumber_30 : decode cX6_readNumber 30 = .ok (.getfield 25, 3) := by decide +kernel
theorem dX6_readNumber_33 : decode cX6_readNumber 33 = .ok (.iconst 1, 1) := by decide +kernel
theorem dX6_readNumber_34 : decode cX6_readNumber 34 = .ok (.iadd, 1) := by decide +kernel
theorem dX6_readNumber_35 : decode cX6_readNumber 35 = .ok (.putfield 25, 3) := by decide +kernel
theorem dX6_readNumber_38 : decode cX6_readNumber 38 = .ok (.goto (-38), 3) := by decide +kernel
theorem dX6_readNumber_41 : decode cX6_readNumber 41 = .ok (.aload_n 0, 1) := by decide +kernel
theorem dX6_readNumber_42 : decode cX6_readNumber 42 = .ok (.aload_n 0, 1) := by decide +kernel
theorem dX6_readNumber_43 : decode cX6_readNumber 43 = .ok (.getfield 25, 3) := by decide +kernel
theorem dX6_readNumber_46 : decode cX6_readNumber 46 = .ok (.aload_n 0, 1) := by decide +kernel
theorem dX6_readNumber_47 : decode cX6_readNumber 47 = .ok (.getfield 22, 3) := by decide +kernel
theorem dX6_readNumber_50 : decode cX6_readNumber 50 = .ok (.isub, 1) := by decide +kernel
theorem dX6_readNumber_51 : decode cX6_readNumber 51 = .ok (.iconst 3, 1) := by decide +kernel
theorem dX6_readNumber_52 : decode cX6_readNumber 52 = .ok (.if_icmp .gt 7, 3) := by decide +kernel
theorem dX6_readNumber_55 : decode cX6_readNumber 55 = .ok (.iconst 2, 1) := by decide +kernel
theorem dX6_readNumber_56 : decode cX6_readNumber 56 = .ok (.goto 4, 3) := by decide +kernel
theorem dX6_readNumber_59 : decode cX6_readNumber 59 = .ok (.iconst 4, 1) := by decide +kernel
theorem dX6_readNumber_60 : decode cX6_readNumber 60 = .ok (.putfield 15, 3) := by decide +kernel
theorem dX6_readNumber_63 : decode cX6_readNumber 63 = .ok (.return_, 1) := by decide +kernel
theorem dX6_isBlank_0 : decode cX6_isBlank 0 = .ok (.iload_n 0, 1) := by decide +kernel
theorem dX6_isBlank_1 : decode cX6_isBlank 1 = .ok (.bipush 32, 2) := by decide +kernel
theorem dX6_isBlank_3 : decode cX6_isBlank 3 = .ok (.if_icmp .eq 9, 3) := by decide +kernel
theorem dX6_isBlank_6 : decode cX6_isBlank 6 = .ok (.iload_n 0, 1) := by decide +kernel
theorem dX6_isBlank_7 : decode cX6_isBlank 7 = .ok (.bipush 10, 2) := by decide +kernel
theorem dX6_isBlank_9 : decode cX6_isBlank 9 = .ok (.if_icmp .ne 7, 3) := by decide +kernel
theorem dX6_isBlank_12 : decode cX6_isBlank 12 = .ok (.iconst 1, 1) := by decide +kernel
theorem dX6_isBlank_13 : decode cX6_isBlank 13 = .ok (.goto 4, 3) := by decide +kernel
theorem dX6_isBlank_16 : decode cX6_isBlank 16 = .ok (.iconst 0, 1) := by decide +kernel
theorem dX6_isBlank_17 : decode cX6_isBlank 17 = .ok (.ireturn, 1) := by decide +kernel
theorem dX6_isLetter_0 : decode cX6_isLetter 0 = .ok (.iload_n 0, 1) := by decide +kernel
theorem dX6_isLetter_1 : decode cX6_isLetter 1 = .ok (.bipush 97, 2) := by decide +kernel
theorem dX6_isLetter_3 : decode cX6_isLetter 3 = .ok (.if_icmp .lt 13, 3) := by decide +kernel
theorem dX6_isLetter_6 : decode cX6_isLetter 6 = .ok (.iload_n 0, 1) := by decide +kernel
theorem dX6_isLetter_7 : decode cX6_isLetter 7 = .ok (.bipush 122, 2) := by decide +kernel
theorem dX6_isLetter_9 : decode cX6_isLetter 9 = .ok (.if_icmp .gt 7, 3) := by decide +kernel
theorem dX6_isLetter_12 : decode cX6_isLetter 12 = .ok (.iconst 1, 1) := by decide +kernel
theorem dX6_isLetter_13 : decode cX6_isLetter 13 = .ok (.goto 4, 3) := by decide +kernel
theorem dX6_isLetter_16 : decode cX6_isLetter 16 = .ok (.iconst 0, 1) := by decide +kernel
theorem dX6_isLetter_17 : decode cX6_isLetter 17 = .ok (.ireturn, 1) := by decide +kernel
theorem dX6_isDigit_0 : decode cX6_isDigit 0 = .ok (.iload_n 0, 1) := by decide +kernel
theorem dX6_isDigit_1 : decode cX6_isDigit 1 = .ok (.bipush 48, 2) := by decide +kernel
theorem dX6_isDigit_3 : decode cX6_isDigit 3 = .ok (.if_icmp .lt 13, 3) := by decide +kernel
theorem dX6_isDigit_6 : decode cX6_isDigit 6 = .ok (.iload_n 0, 1) := by decide +kernel
theorem dX6_isDigit_7 : decode cX6_isDigit 7 = .ok (.bipush 57, 2) := by decide +kernel
theorem dX6_isDigit_9 : decode cX6_isDigit 9 = .ok (.if_icmp .gt 7, 3) := by decide +kernel
theorem dX6_isDigit_12 : decode cX6_isDigit 12 = .ok (.iconst 1, 1) := by decide +kernel
theorem dX6_isDigit_13 : decode cX6_isDigit 13 = .ok (.goto 4, 3) := by decide +kernel
theorem dX6_isDigit_16 : decode cX6_isDigit 16 = .ok (.iconst 0, 1) := by decide +kernel
theorem dX6_isDigit_17 : decode cX6_isDigit 17 = .ok (.ireturn, 1) := by decide +kernel
set_option maxRecDepth 20000 in
theorem ggX6_isWord_J0_length_8abf5 : GoodIn wsX6_isWord wsJ0_length_8abf5 := goodIn_r _ [9, 10, 11, 12, 13, 8, 14, 15, 16] (by decide +kernel) (by decide +kernel)
set_option maxRecDepth 20000 in
theorem gX6_isWord_J0_length_8abf5 : GoodIn wsX6_isWord (wsV RX6 48 RJ0 yJ0_length_8abf5 wsJ0_length_8abf5) := goodIn_app (goodIn_of _ (by decide +kernel)) ggX6_isWord_J0_length_8abf5
set_option maxRecDepth 20000 in
theorem ggX6_isWord_X7_at : GoodIn wsX6_isWord wsX7_at := goodIn_r _ [19] (by decide +kernel) (by decide +kernel)
set_option maxRecDepth 20000 in
theorem gX6_isWord_X7_at_n28 : GoodIn wsX6_isWord (wsX7_at) := ggX6_isWord_X7_at
set_option maxRecDepth 20000 in
theorem ggX6_isWord_J0_charAt_5068e : GoodIn wsX6_isWord wsJ0_charAt_5068e := goodIn_r _ [23, 10, 24, 25, 26, 8, 27, 15, 16, 28, 29, 30, 31, 32, 33, 34, 35, 36, 37, 38, 39, 40, 41, 42, 43, 44, 45, 46, 47, 48, 49, 50, 51, 52, 53, 54, 55, 56] (by decide +kernel) (by decide +kernel)
set_option maxRecDepth 20000 in
theorem gX6_isWord_J0_charAt_5068e : GoodIn wsX6_isWord (wsV RX6 54 RJ0 yJ0_charAt_5068e wsJ0_charAt_5068e) := goodIn_app (goodIn_of _ (by decide +kernel)) ggX6_isWord_J0_charAt_5068e
theorem dX6_isWord_0 : decode cX6_isWord 0 = .ok (.aload_n 0, 1) := by decide +kernel
theorem dX6_isWord_1 : decode cX6_isWord 1 = .ok (.getfield 15, 3) := by decide +kernel
theorem dX6_isWord_4 : decode cX6_isWord 4 = .ok (.iconst 1, 1) := by decide +kernel
theorem dX6_isWord_5 : decode cX6_isWord 5 = .ok (.if_icmp .ne 19, 3) := by decide +kernel
theorem dX6_isWord_8 : decode cX6_isWord 8 = .ok (.aload_n 0, 1) := by decide +kernel
theorem dX6_isWord_9 : decode cX6_isWord 9 = .ok (.getfield 25, 3) := by decide +kernel
theorem dX6_isWord_12 : decode cX6_isWord 12 = .ok (.aload_n 0, 1) := by decide +kernel
theorem dX6_isWord_13 : decode cX6_isWord 13 = .ok (.getfield 22, 3) := by decide +kernel
theorem dX6_isWord_16 : decode cX6_isWord 16 = .ok (.isub, 1) := by decide +kernel
theorem dX6_isWord_17 : decode cX6_isWord 17 = .ok (.aload_n 1, 1) := by decide +kernel
theorem dX6_isWord_18 : decode cX6_isWord 18 = .ok (.invokevirtual 48, 3) := by decide +kernel
theorem dX6_isWord_21 : decode cX6_isWord 21 = .ok (.if_icmp .eq 5, 3) := by decide +kernel
theorem dX6_isWord_24 : decode cX6_isWord 24 = .ok (.iconst 0, 1) := by decide +kernel
theorem dX6_isWord_25 : decode cX6_isWord 25 = .ok (.ireturn, 1) := by decide +kernel
theorem dX6_isWord_26 : decode cX6_isWord 26 = .ok (.iconst 0, 1) := by decide +kernel
theorem dX6_isWord_27 : decode cX6_isWord 27 = .ok (.istore_n 2, 1) := by decide +kernel
theorem dX6_isWord_28 : decode cX6_isWord 28 = .ok (.iload_n 2, 1) := by decide +kernel
theorem dX6_isWord_29 : decode cX6_isWord 29 = .ok (.aload_n 1, 1) := by decide +kernel
theorem dX6_isWord_30 : decode cX6_isWord 30 = .ok (.invokevirtual 48, 3) := by decide +kernel
theorem dX6_isWord_33 : decode cX6_isWord 33 = .ok (.if_icmp .ge 32, 3) := by decide +kernel
theorem dX6_isWord_36 : decode cX6_isWord 36 = .ok (.aload_n 0, 1) := by decide +kernel
theorem dX6_isWord_37 : decode cX6_isWord 37 = .ok (.getfield 9, 3) := by decide +kernel
theorem dX6_isWord_40 : decode cX6_isWord 40 = .ok (.aload_n 0, 1) := by decide +kernel
theorem dX6_isWord_41 : decode cX6_isWord 41 = .ok (.getfield 22, 3) := by decide +kernel
theorem dX6_isWord_44 : decode cX6_isWord 44 = .ok (.iload_n 2, 1) := by decide +kernel
theorem dX6_isWord_45 : decode cX6_isWord 45 = .ok (.iadd, 1) := by decide +kernel
theorem dX6_isWord_46 : decode cX6_isWord 46 = .ok (.invokestatic 28, 3) := by decide +kernel
theorem dX6_isWord_49 : decode cX6_isWord 49 = .ok (.aload_n 1, 1) := by decide +kernel
theorem dX6_isWord_50 : decode cX6_isWord 50 = .ok (.iload_n 2, 1) := by decide +kernel
theorem dX6_isWord_51 : decode cX6_isWord 51 = .ok (.invokevirtual 54, 3) := by decide +kernel
theorem dX6_isWord_54 : decode cX6_isWord 54 = .ok (.if_icmp .eq 5, 3) := by decide +kernel
theorem dX6_isWord_57 : decode cX6_isWord 57 = .ok (.iconst 0, 1) := by decide +kernel
theorem dX6_isWord_58 : decode cX6_isWord 58 = .ok (.ireturn, 1) := by decide +kernel
theorem dX6_isWord_59 : decode cX6_isWord 59 = .ok (.iinc 2 1, 3) := by decide +kernel
theorem dX6_isWord_62 : decode cX6_isWord 62 = .ok (.goto (-34), 3) := by decide +kernel
theorem dX6_isWord_65 : decode cX6_isWord 65 = .ok (.iconst 1, 1) := by decide +kernel
theorem dX6_isWord_66 : decode cX6_isWord 66 = .ok (.ireturn, 1) := by decide +kernel
set_option maxRecDepth 20000 in
theorem ggX6_number_X7_at : GoodIn wsX6_number wsX7_at := goodIn_r _ [6] (by decide +kernel) (by decide +kernel)
set_option maxRecDepth 20000 in
theorem gX6_number_X7_at_n28 : GoodIn wsX6_number (wsX7_at) := ggX6_number_X7_at
theorem dX6_number_0 : decode cX6_number 0 = .ok (.iconst 0, 1) := by decide +kernel
theorem dX6_number_1 : decode cX6_number 1 = .ok (.istore_n 1, 1) := by decide +kernel
theorem dX6_number_2 : decode cX6_number 2 = .ok (.aload_n 0, 1) := by decide +kernel
theorem dX6_number_3 : decode cX6_number 3 = .ok (.getfield 22, 3) := by decide +kernel
theorem dX6_number_6 : decode cX6_number 6 = .ok (.istore_n 2, 1) := by decide +kernel
theorem dX6_number_7 : decode cX6_number 7 = .ok (.iload_n 2, 1) := by decide +kernel
theorem dX6_number_8 : decode cX6_number 8 = .ok (.aload_n 0, 1) := by decide +kernel
theorem dX6_number_9 : decode cX6_number 9 = .ok (.getfield 25, 3) := by decide +kernel
theorem dX6_number_12 : decode cX6_number 12 = .ok (.if_icmp .ge 26, 3) := by decide +kernel
theorem dX6_number_15 : decode cX6_number 15 = .ok (.bipush 10, 2) := by decide +kernel
theorem dX6_number_17 : decode cX6_number 17 = .ok (.iload_n 1, 1) := by decide +kernel
theorem dX6_number_18 : decode cX6_number 18 = .ok (.imul, 1) := by decide +kernel
theorem dX6_number_19 : decode cX6_number 19 = .ok (.aload_n 0, 1) := by decide +kernel
theorem dX6_number_20 : decode cX6_number 20 = .ok (.getfield 9, 3) := by decide +kernel
theorem dX6_number_23 : decode cX6_number 23 = .ok (.iload_n 2, 1) := by decide +kernel
theorem dX6_number_24 : decode cX6_number 24 = .ok (.invokestatic 28, 3) := by decide +kernel
theorem dX6_number_27 : decode cX6_number 27 = .ok (.bipush 48, 2) := by decide +kernel
theorem dX6_number_29 : decode cX6_number 29 = .ok (.isub, 1) := by decide +kernel
theorem dX6_number_30 : decode cX6_number 30 = .ok (.iadd, 1) := by decide +kernel
theorem dX6_number_31 : decode cX6_number 31 = .ok (.istore_n 1, 1) := by decide +kernel
theorem dX6_number_32 : decode cX6_number 32 = .ok (.iinc 2 1, 3) := by decide +kernel
theorem dX6_number_35 : decode cX6_number 35 = .ok (.goto (-28), 3) := by decide +kernel
theorem dX6_number_38 : decode cX6_number 38 = .ok (.iload_n 1, 1) := by decide +kernel
theorem dX6_number_39 : decode cX6_number 39 = .ok (.ireturn, 1) := by decide +kernel
set_option maxRecDepth 20000 in
theorem ggX6_isNumber_X6_number : GoodIn wsX6_isNumber wsX6_number := goodIn_r _ [6, 7, 8, 9, 10, 11, 12, 13, 14, 15, 16, 17] (by decide +kernel) (by decide +kernel)
set_option maxRecDepth 20000 in
theorem gX6_isNumber_X6_number : GoodIn wsX6_isNumber (wsV RX6 58 RX6 yX6_number wsX6_number) := goodIn_app (goodIn_of _ (by decide +kernel)) ggX6_isNumber_X6_number
theorem dX6_isNumber_0 : decode cX6_isNumber 0 = .ok (.aload_n 0, 1) := by decide +kernel
theorem dX6_isNumber_1 : decode cX6_isNumber 1 = .ok (.getfield 15, 3) := by decide +kernel
theorem dX6_isNumber_4 : decode cX6_isNumber 4 = .ok (.iconst 2, 1) := by decide +kernel
theorem dX6_isNumber_5 : decode cX6_isNumber 5 = .ok (.if_icmp .ne 23, 3) := by decide +kernel
theorem dX6_isNumber_8 : decode cX6_isNumber 8 = .ok (.aload_n 0, 1) := by decide +kernel
theorem dX6_isNumber_9 : decode cX6_isNumber 9 = .ok (.invokevirtual 58, 3) := by decide +kernel
theorem dX6_isNumber_12 : decode cX6_isNumber 12 = .ok (.iload_n 1, 1) := by decide +kernel
theorem dX6_isNumber_13 : decode cX6_isNumber 13 = .ok (.if_icmp .lt 15, 3) := by decide +kernel
theorem dX6_isNumber_16 : decode cX6_isNumber 16 = .ok (.aload_n 0, 1) := by decide +kernel
theorem dX6_isNumber_17 : decode cX6_isNumber 17 = .ok (.invokevirtual 58, 3) := by decide +kernel
theorem dX6_isNumber_20 : decode cX6_isNumber 20 = .ok (.iload_n 2, 1) := by decide +kernel
theorem dX6_isNumber_21 : decode cX6_isNumber 21 = .ok (.if_icmp .gt 7, 3) := by decide +kernel
theorem dX6_isNumber_24 : decode cX6_isNumber 24 = .ok (.iconst 1, 1) := by decide +kernel
theorem dX6_isNumber_25 : decode cX6_isNumber 25 = .ok (.goto 4, 3) := by decide +kernel
theorem dX6_isNumber_28 : decode cX6_isNumber 28 = .ok (.iconst 0, 1) := by decide +kernel
theorem dX6_isNumber_29 : decode cX6_isNumber 29 = .ok (.ireturn, 1) := by decide +kernel
set_option maxRecDepth 20000 in
theorem ggX7_init_X2_init : GoodIn wsX7_init wsX2_init := goodIn_r _ [33, 34, 2, 3, 35, 36, 37, 38, 39, 4, 40, 41, 42, 43, 44, 45, 46, 47, 48, 49, 50, 160, 161, 162, 163, 164, 165, 166, 167, 125, 126, 127, 128, 129, 130, 131, 132, 133, 134, 135, 136, 137, 138] (by decide +kernel) (by decide +kernel)
set_option maxRecDepth 20000 in
theorem gX7_init_X2_init_n15 : GoodIn wsX7_init (wsX2_init) := ggX7_init_X2_init
set_option maxRecDepth 20000 in
theorem ggX7_init_X3_init : GoodIn wsX7_init wsX3_init := goodIn_r _ [53, 54, 2, 3, 55, 56, 7, 8, 32, 33, 34, 35, 36, 37, 38, 39, 4, 40, 41, 42, 43, 44, 45, 46, 47, 48, 49, 50, 139, 140, 141, 142, 125, 126, 127, 128, 129, 130, 131, 132, 133, 134, 135, 136, 137, 138, 160, 161, 162, 163, 164, 165, 166, 167] (by decide +kernel) (by decide +kernel)
set_option maxRecDepth 20000 in
theorem gX7_init_X3_init : GoodIn wsX7_init (wsX3_init) := ggX7_init_X3_init
set_option maxRecDepth 20000 in
theorem ggX7_init_X0_init : GoodIn wsX7_init wsX0_init := goodIn_r _ [58, 59, 2, 3, 60, 36, 37, 61, 62, 4, 63, 43, 44, 45, 46, 47, 48, 49, 50, 160, 161, 162, 163, 164, 165, 166, 167, 143, 144, 145, 146] (by decide +kernel) (by decide +kernel)
set_option maxRecDepth 20000 in
theorem gX7_init_X0_init_n32 : GoodIn wsX7_init (wsX0_init) := ggX7_init_X0_init
set_option maxRecDepth 20000 in
theorem ggX7_init_X6_init : GoodIn wsX7_init wsX6_init := goodIn_r _ [65, 66, 2, 3, 4, 67, 68, 147, 148, 149, 150, 151] (by decide +kernel) (by decide +kernel)
set_option maxRecDepth 20000 in
theorem gX7_init_X6_init_n39 : GoodIn wsX7_init (wsX6_init) := ggX7_init_X6_init
set_option maxRecDepth 20000 in
theorem ggX7_init_X4_init : GoodIn wsX7_init wsX4_init := goodIn_r _ [70, 71, 2, 3, 4, 72, 152, 153, 154, 155, 156, 157] (by decide +kernel) (by decide +kernel)
set_option maxRecDepth 20000 in
theorem gX7_init_X4_init_n46 : GoodIn wsX7_init (wsX4_init) := ggX7_init_X4_init
set_option maxRecDepth 20000 in
theorem ggX7_init_X5_init : GoodIn wsX7_init wsX5_init := goodIn_r _ [74, 75, 2, 3, 4, 76, 158, 159] (by decide +kernel) (by decide +kernel)
set_option maxRecDepth 20000 in
theorem gX7_init_X5_init_n53 : GoodIn wsX7_init (wsX5_init) := ggX7_init_X5_init
set_option maxRecDepth 20000 in
theorem ggX7_init_X2_begin : GoodIn wsX7_init wsX2_begin := goodIn_r _ [80, 38, 81, 82, 83, 84, 85, 37, 86, 87, 88, 89, 90, 91, 92, 93, 94, 95, 96, 97, 46, 47, 48, 49, 98, 99, 100, 8, 101, 39, 102, 103, 104, 105, 106, 107, 108, 109, 110, 111, 112, 113, 125, 126, 127, 128, 129, 130, 131, 132, 133, 134, 135, 136, 137, 138, 160, 161, 162, 163, 164, 165, 166, 167] (by decide +kernel) (by decide +kernel)
set_option maxRecDepth 20000 in
theorem gX7_init_X2_begin : GoodIn wsX7_init (wsV RX7 62 RX2 yX2_begin wsX2_begin) := goodIn_app (goodIn_of _ (by decide +kernel)) ggX7_init_X2_begin
theorem dX7_init_0 : decode cX7_init 0 = .ok (.aload_n 0, 1) := by decide +kernel
theorem dX7_init_1 : decode cX7_init 1 = .ok (.invokespecial 3, 3) := by decide +kernel
theorem dX7_init_4 : decode cX7_init 4 = .ok (.aload_n 0, 1) := by decide +kernel
theorem dX7_init_5 : decode cX7_init 5 = .ok (.sipush 800, 3) := by decide +kernel
theorem dX7_init_8 : decode cX7_init 8 = .ok (.newarray .int, 2) := by decide +kernel
theorem dX7_init_10 : decode cX7_init 10 = .ok (.putfield 9, 3) := by decide +kernel
theorem dX7_init_13 : decode cX7_init 13 = .ok (.aload_n 0, 1) := by decide +kernel
theorem dX7_init_14 : decode cX7_init 14 = .ok (.new 13, 3) := by decide +kernel
theorem dX7_init_17 : decode cX7_init 17 = .ok (.dup, 1) := by decide +kernel
theorem dX7_init_18 : decode cX7_init 18 = .ok (.invokespecial 15, 3) := by decide +kernel
theorem dX7_init_21 : decode cX7_init 21 = .ok (.putfield 16, 3) := by decide +kernel
theorem dX7_init_24 : decode cX7_init 24 = .ok (.aload_n 0, 1) := by decide +kernel
theorem dX7_init_25 : decode cX7_init 25 = .ok (.new 20, 3) := by decide +kernel
theorem dX7_init_28 : decode cX7_init 28 = .ok (.dup, 1) := by decide +kernel
theorem dX7_init_29 : decode cX7_init 29 = .ok (.invokespecial 22, 3) := by decide +kernel
theorem dX7_init_32 : decode cX7_init 32 = .ok (.putfield 23, 3) := by decide +kernel
theorem dX7_init_35 : decode cX7_init 35 = .ok (.aload_n 0, 1) := by decide +kernel
theorem dX7_init_36 : decode cX7_init 36 = .ok (.sipush 400, 3) := by decide +kernel
theorem dX7_init_39 : decode cX7_init 39 = .ok (.newarray .int, 2) := by decide +kernel
theorem dX7_init_41 : decode cX7_init 41 = .ok (.putfield 27, 3) := by decide +kernel
theorem dX7_init_44 : decode cX7_init 44 = .ok (.aload_n 0, 1) := by decide +kernel
theorem dX7_init_45 : decode cX7_init 45 = .ok (.new 30, 3) := by decide +kernel
theorem dX7_init_48 : decode cX7_init 48 = .ok (.dup, 1) := by decide +kernel
theorem dX7_init_49 : decode cX7_init 49 = .ok (.invokespecial 32, 3) := by decide +kernel
theorem dX7_init_52 : decode cX7_init 52 = .ok (.putfield 33, 3) := by decide +kernel
theorem dX7_init_55 : decode cX7_init 55 = .ok (.aload_n 0, 1) := by decide +kernel
theorem dX7_init_56 : decode cX7_init 56 = .ok (.new 37, 3) := by decide +kernel
theorem dX7_init_59 : decode cX7_init 59 = .ok (.dup, 1) := by decide +kernel
theorem dX7_init_60 : decode cX7_init 60 = .ok (.invokespecial 39, 3) := by decide +kernel
theorem dX7_init_63 : decode cX7_init 63 = .ok (.putfield 40, 3) := by decide +kernel
theorem dX7_init_66 : decode cX7_init 66 = .ok (.aload_n 0, 1) := by decide +kernel
theorem dX7_init_67 : decode cX7_init 67 = .ok (.new 44, 3) := by decide +kernel
theorem dX7_init_70 : decode cX7_init 70 = .ok (.dup, 1) := by decide +kernel
theorem dX7_init_71 : decode cX7_init 71 = .ok (.invokespecial 46, 3) := by decide +kernel
theorem dX7_init_74 : decode cX7_init 74 = .ok (.putfield 47, 3) := by decide +kernel
theorem dX7_init_77 : decode cX7_init 77 = .ok (.aload_n 0, 1) := by decide +kernel
theorem dX7_init_78 : decode cX7_init 78 = .ok (.new 51, 3) := by decide +kernel
theorem dX7_init_81 : decode cX7_init 81 = .ok (.dup, 1) := by decide +kernel
theorem dX7_init_82 : decode cX7_init 82 = .ok (.invokespecial 53, 3) := by decide +kernel
theorem dX7_init_85 : decode cX7_init 85 = .ok (.putfield 54, 3) := by decide +kernel
theorem dX7_init_88 : decode cX7_init 88 = .ok (.aload_n 0, 1) := by decide +kernel
theorem dX7_init_89 : decode cX7_init 89 = .ok (.iconst (-1), 1) := by decide +kernel
theorem dX7_init_90 : decode cX7_init 90 = .ok (.putfield 58, 3) := by decide +kernel
theorem dX7_init_93 : decode cX7_init 93 = .ok (.aload_n 0, 1) := by decide +kernel
theorem dX7_init_94 : decode cX7_init 94 = .ok (.getfield 16, 3) := by decide +kernel
theorem dX7_init_97 : decode cX7_init 97 = .ok (.iconst 4, 1) := by decide +kernel
theorem dX7_init_98 : decode cX7_init 98 = .ok (.iconst 4, 1) := by decide +kernel
theorem dX7_init_99 : decode cX7_init 99 = .ok (.iconst 1, 1) := by decide +kernel
theorem dX7_init_100 : decode cX7_init 100 = .ok (.bipush 90, 2) := by decide +kernel
theorem dX7_init_102 : decode cX7_init 102 = .ok (.invokevirtual 62, 3) := by decide +kernel
theorem dX7_init_105 : decode cX7_init 105 = .ok (.return_, 1) := by decide +kernel
set_option maxRecDepth 20000 in
theorem ggX7_append_X7_appendWord : GoodIn wsX7_append wsX7_appendWord := goodIn_r _ [8, 9, 3, 10, 11, 7, 12, 13, 14, 15, 16, 17, 18, 19, 20, 21, 22, 23] (by decide +kernel) (by decide +kernel)
set_option maxRecDepth 20000 in
theorem gX7_append_X7_appendWord : GoodIn wsX7_append (wsV RX7 76 RX7 yX7_appendWord wsX7_appendWord) := goodIn_app (goodIn_of _ (by decide +kernel)) ggX7_append_X7_appendWord
theorem dX7_append_0 : decode cX7_append 0 = .ok (.aload_n 0, 1) := by decide +kernel
theorem dX7_append_1 : decode cX7_append 1 = .ok (.getfield 66, 3) := by decide +kernel
theorem dX7_append_4 : decode cX7_append 4 = .ok (.bipush 20, 2) := by decide +kernel
theorem dX7_append_6 : decode cX7_append 6 = .ok (.iadd, 1) := by decide +kernel
theorem dX7_append_7 : decode cX7_append 7 = .ok (.sipush 800, 3) := by decide +kernel
theorem dX7_append_10 : decode cX7_append 10 = .ok (.if_icmp .le 13, 3) := by decide +kernel
theorem dX7_append_13 : decode cX7_append 13 = .ok (.new 69, 3) := by decide +kernel
theorem dX7_append_16 : decode cX7_append 16 = .ok (.dup, 1) := by decide +kernel
theorem dX7_append_17 : decode cX7_append 17 = .ok (.ldc 71, 2) := by decide +kernel
theorem dX7_append_19 : decode cX7_append 19 = .ok (.invokespecial 73, 3) := by decide +kernel
theorem dX7_append_22 : decode cX7_append 22 = .ok (.athrow, 1) := by decide +kernel
theorem dX7_append_23 : decode cX7_append 23 = .ok (.aload_n 0, 1) := by decide +kernel
theorem dX7_append_24 : decode cX7_append 24 = .ok (.iload_n 1, 1) := by decide +kernel
theorem dX7_append_25 : decode cX7_append 25 = .ok (.invokevirtual 76, 3) := by decide +kernel
theorem dX7_append_28 : decode cX7_append 28 = .ok (.aload_n 0, 1) := by decide +kernel
theorem dX7_append_29 : decode cX7_append 29 = .ok (.iload_n 2, 1) := by decide +kernel
theorem dX7_append_30 : decode cX7_append 30 = .ok (.invokevirtual 76, 3) := by decide +kernel
theorem dX7_append_33 : decode cX7_append 33 = .ok (.aload_n 0, 1) := by decide +kernel
theorem dX7_append_34 : decode cX7_append 34 = .ok (.iload_n 3, 1) := by decide +kernel
theorem dX7_append_35 : decode cX7_append 35 = .ok (.invokevirtual 76, 3) := by decide +kernel
theorem dX7_append_38 : decode cX7_append 38 = .ok (.aload_n 0, 1) := by decide +kernel
theorem dX7_append_39 : decode cX7_append 39 = .ok (.iload 4, 2) := by decide +kernel
theorem dX7_append_41 : decode cX7_append 41 = .ok (.invokevirtual 76, 3) := by decide +kernel
theorem dX7_append_44 : decode cX7_append 44 = .ok (.aload_n 0, 1) := by decide +kernel
theorem dX7_append_45 : decode cX7_append 45 = .ok (.iload 5, 2) := by decide +kernel
theorem dX7_append_47 : decode cX7_append 47 = .ok (.invokevirtual 76, 3) := by decide +kernel
theorem dX7_append_50 : decode cX7_append 50 = .ok (.aload_n 0, 1) := by decide +kernel
theorem dX7_append_51 : decode cX7_append 51 = .ok (.getfield 66, 3) := by decide +kernel
theorem dX7_append_54 : decode cX7_append 54 = .ok (.ireturn, 1) := by decide +kernel
set_option maxRecDepth 20000 in
theorem ggX7_appendWord_X7_put : GoodIn wsX7_appendWord wsX7_put := goodIn_r _ [6] (by decide +kernel) (by decide +kernel)
set_option maxRecDepth 20000 in
theorem gX7_appendWord_X7_put : GoodIn wsX7_appendWord (va_wsS RX7 80 yX7_put wsX7_put) := goodIn_app (goodIn_of _ (by decide +kernel)) ggX7_appendWord_X7_put
theorem dX7_appendWord_0 : decode cX7_appendWord 0 = .ok (.iconst 0, 1) := by decide +kernel
theorem dX7_appendWord_1 : decode cX7_appendWord 1 = .ok (.istore_n 2, 1) := by decide +kernel
theorem dX7_appendWord_2 : decode cX7_appendWord 2 = .ok (.iload_n 2, 1) := by decide +kernel
theorem dX7_appendWord_3 : decode cX7_appendWord 3 = .ok (.iconst 4, 1) := by decide +kernel
theorem dX7_appendWord_4 : decode cX7_appendWord 4 = .ok (.if_icmp .ge 35, 3) := by decide +kernel
theorem dX7_appendWord_7 : decode cX7_appendWord 7 = .ok (.aload_n 0, 1) := by decide +kernel
theorem dX7_appendWord_8 : decode cX7_appendWord 8 = .ok (.getfield 9, 3) := by decide +kernel
theorem dX7_appendWord_11 : decode cX7_appendWord 11 = .ok (.aload_n 0, 1) := by decide +kernel
theorem dX7_appendWord_12 : decode cX7_appendWord 12 = .ok (.getfield 66, 3) := by decide +kernel
theorem dX7_appendWord_15 : decode cX7_appendWord 15 = .ok (.iload_n 2, 1) := by decide +kernel
theorem dX7_appendWord_16 : decode cX7_appendWord 16 = .ok (.iadd, 1) := by decide +kernel
theorem dX7_appendWord_17 : decode cX7_appendWord 17 = .ok (.iload_n 1, 1) := by decide +kernel
theorem dX7_appendWord_18 : decode cX7_appendWord 18 = .ok (.bipush 24, 2) := by decide +kernel
theorem dX7_appendWord_20 : decode cX7_appendWord 20 = .ok (.bipush 8, 2) := by decide +kernel
theorem dX7_appendWord_22 : decode cX7_appendWord 22 = .ok (.iload_n 2, 1) := by decide +kernel
theorem dX7_appendWord_23 : decode cX7_appendWord 23 = .ok (.imul, 1) := by decide +kernel
theorem dX7_appendWord_24 : decode cX7_appendWord 24 = .ok (.isub, 1) := by decide +kernel
theorem dX7_appendWord_25 : decode cX7_appendWord 25 = .ok (.iushr, 1) := by decide +kernel
theorem dX7_appendWord_26 : decode cX7_appendWord 26 = .ok (.sipush 255, 3) := by decide +kernel
theorem dX7_appendWord_29 : decode cX7_appendWord 29 = .ok (.iand, 1) := by decide +kernel
theorem dX7_appendWord_30 : decode cX7_appendWord 30 = .ok (.invokestatic 80, 3) := by decide +kernel
theorem dX7_appendWord_33 : decode cX7_appendWord 33 = .ok (.iinc 2 1, 3) := by decide +kernel
theorem dX7_appendWord_36 : decode cX7_appendWord 36 = .ok (.goto (-34), 3) := by decide +kernel
theorem dX7_appendWord_39 : decode cX7_appendWord 39 = .ok (.aload_n 0, 1) := by decide +kernel
theorem dX7_appendWord_40 : decode cX7_appendWord 40 = .ok (.dup, 1) := by decide +kernel
theorem dX7_appendWord_41 : decode cX7_appendWord 41 = .ok (.getfield 66, 3) := by decide +kernel
theorem dX7_appendWord_44 : decode cX7_appendWord 44 = .ok (.iconst 4, 1) := by decide +kernel
theorem dX7_appendWord_45 : decode cX7_appendWord 45 = .ok (.iadd, 1) := by decide +kernel
theorem dX7_appendWord_46 : decode cX7_appendWord 46 = .ok (.putfield 66, 3) := by decide +kernel
theorem dX7_appendWord_49 : decode cX7_appendWord 49 = .ok (.return_, 1) := by decide +kernel
theorem dX7_truncate_0 : decode cX7_truncate 0 = .ok (.iload_n 1, 1) := by decide +kernel
theorem dX7_truncate_1 : decode cX7_truncate 1 = .ok (.ifCond .lt 11, 3) := by decide +kernel
theorem dX7_truncate_4 : decode cX7_truncate 4 = .ok (.iload_n 1, 1) := by decide +kernel
theorem dX7_truncate_5 : decode cX7_truncate 5 = .ok (.aload_n 0, 1) := by decide +kernel
theorem dX7_truncate_6 : decode cX7_truncate 6 = .ok (.getfield 66, 3) := by decide +kernel
theorem dX7_truncate_9 : decode cX7_truncate 9 = .ok (.if_icmp .le 13, 3) := by decide +kernel
theorem dX7_truncate_12 : decode cX7_truncate 12 = .ok (.new 84, 3) := by decide +kernel
theorem dX7_truncate_15 : decode cX7_truncate 15 = .ok (.dup, 1) := by decide +kernel
theorem dX7_truncate_16 : decode cX7_truncate 16 = .ok (.ldc 86, 2) := by decide +kernel
theorem dX7_truncate_18 : decode cX7_truncate 18 = .ok (.invokespecial 88, 3) := by decide +kernel
theorem dX7_truncate_21 : decode cX7_truncate 21 = .ok (.athrow, 1) := by decide +kernel
theorem dX7_truncate_22 : decode cX7_truncate 22 = .ok (.aload_n 0, 1) := by decide +kernel
theorem dX7_truncate_23 : decode cX7_truncate 23 = .ok (.dup, 1) := by decide +kernel
theorem dX7_truncate_24 : decode cX7_truncate 24 = .ok (.getfield 66, 3) := by decide +kernel
theorem dX7_truncate_27 : decode cX7_truncate 27 = .ok (.iload_n 1, 1) := by decide +kernel
theorem dX7_truncate_28 : decode cX7_truncate 28 = .ok (.isub, 1) := by decide +kernel
theorem dX7_truncate_29 : decode cX7_truncate 29 = .ok (.putfield 66, 3) := by decide +kernel
theorem dX7_truncate_32 : decode cX7_truncate 32 = .ok (.aload_n 0, 1) := by decide +kernel
theorem dX7_truncate_33 : decode cX7_truncate 33 = .ok (.getfield 66, 3) := by decide +kernel
theorem dX7_truncate_36 : decode cX7_truncate 36 = .ok (.ireturn, 1) := by decide +kernel
set_option maxRecDepth 20000 in
theorem ggX7_load_X6_begin : GoodIn wsX7_load wsX6_begin := goodIn_r _ [15, 16, 17, 18, 19, 20, 276, 277, 278, 279, 280] (by decide +kernel) (by decide +kernel)
set_option maxRecDepth 20000 in
theorem gX7_load_X6_begin : GoodIn wsX7_load (wsV RX7 89 RX6 yX6_begin wsX6_begin) := goodIn_app (goodIn_of _ (by decide +kernel)) ggX7_load_X6_begin
set_option maxRecDepth 20000 in
theorem ggX7_load_X4_readSetup : GoodIn wsX7_load wsX4_readSetup := goodIn_r _ [25, 26, 27, 28, 29, 24, 30, 31, 32, 33, 34, 35, 14, 36, 20, 19, 17, 16, 18, 37, 38, 39, 40, 41, 42, 43, 44, 45, 46, 47, 48, 49, 50, 51, 52, 53, 54, 55, 56, 57, 58, 59, 60, 61, 62, 63, 64, 65, 66, 67, 68, 69, 70, 71, 72, 73, 74, 75, 76, 77, 78, 79, 80, 81, 82, 83, 84, 85, 86, 87, 88, 89, 90, 91, 92, 93, 94, 95, 96, 97, 98, 99, 100, 101, 102, 103, 104, 105, 106, 107, 108, 109, 110, 111, 112, 113, 114, 115, 116, 117, 118, 119, 120, 121, 122, 123, 124, 125, 126, 127, 128, 129, 130, 131, 132, 133, 134, 135, 136, 137, 138, 139, 140, 141, 142, 143, 144, 281, 282, 283, 284, 285, 286, 276, 277, 278, 279, 280] (by decide +kernel) (by decide +kernel)
set_option maxRecDepth 20000 in
theorem gX7_load_X4_readSetup : GoodIn wsX7_load (wsV RX7 92 RX4 yX4_readSetup wsX4_readSetup) := goodIn_app (goodIn_of _ (by decide +kernel)) ggX7_load_X4_readSetup
set_option maxRecDepth 20000 in
theorem ggX7_load_X2_begin : GoodIn wsX7_load wsX2_begin := goodIn_r _ [149, 150, 151, 152, 153, 154, 155, 156, 157, 158, 159, 160, 161, 162, 163, 164, 165, 166, 167, 168, 169, 170, 171, 172, 173, 174, 175, 148, 176, 177, 178, 179, 180, 181, 182, 183, 184, 185, 186, 187, 188, 189, 287, 288, 289, 290, 291, 292, 293, 294, 295, 296, 297, 298, 299, 300, 301, 302, 303, 304, 305, 306, 307, 308] (by decide +kernel) (by decide +kernel)
set_option maxRecDepth 20000 in
theorem gX7_load_X2_begin : GoodIn wsX7_load (wsV RX7 62 RX2 yX2_begin wsX2_begin) := goodIn_app (goodIn_of _ (by decide +kernel)) ggX7_load_X2_begin
set_option maxRecDepth 20000 in
theorem ggX7_load_X7_at : GoodIn wsX7_load wsX7_at := goodIn_r _ [39] (by decide +kernel) (by decide +kernel)
set_option maxRecDepth 20000 in
theorem gX7_load_X7_at : GoodIn wsX7_load (va_wsS RX7 119 yX7_at wsX7_at) := goodIn_app (goodIn_of _ (by decide +kernel)) ggX7_load_X7_at
set_option maxRecDepth 20000 in
theorem ggX7_load_X2_takeSymbol : GoodIn wsX7_load wsX2_takeSymbol := goodIn_r _ [194, 177, 150, 195, 178, 196, 197, 198, 148, 199, 200, 201, 202, 156, 203, 172, 158, 170, 204, 37, 38, 39, 205, 206, 207, 208, 151, 189, 188, 152, 209, 210, 211, 212, 164, 213, 214, 215, 216, 159, 217, 218, 219, 220, 221, 222, 223, 224, 225, 226, 171, 227, 228, 229, 230, 231, 232, 233, 234, 235, 236, 237, 238, 239, 240, 241, 242, 187, 243, 244, 245, 246, 247, 179, 248, 180, 143, 144, 249, 250, 251, 252, 181, 183, 184, 185, 186, 182, 161, 162, 163, 165, 166, 167, 168, 169, 253, 254, 255, 256, 257, 287, 288, 289, 290, 291, 292, 293, 294, 295, 296, 297, 298, 299, 300, 301, 302, 303, 304, 305, 306, 307, 308] (by decide +kernel) (by decide +kernel)
set_option maxRecDepth 20000 in
theorem gX7_load_X2_takeSymbol : GoodIn wsX7_load (wsV RX7 123 RX2 yX2_takeSymbol wsX2_takeSymbol) := goodIn_app (goodIn_of _ (by decide +kernel)) ggX7_load_X2_takeSymbol
set_option maxRecDepth 20000 in
theorem ggX7_load_X3_forget : GoodIn wsX7_load wsX3_forget := goodIn_r _ [262, 263, 264, 309, 310, 311, 312] (by decide +kernel) (by decide +kernel)
set_option maxRecDepth 20000 in
theorem gX7_load_X3_forget : GoodIn wsX7_load (wsV RX7 127 RX3 yX3_forget wsX3_forget) := goodIn_app (goodIn_of _ (by decide +kernel)) ggX7_load_X3_forget
theorem dX7_load_0 : decode cX7_load 0 = .ok (.aload_n 0, 1) := by decide +kernel
theorem dX7_load_1 : decode cX7_load 1 = .ok (.getfield 40, 3) := by decide +kernel
theorem dX7_load_4 : decode cX7_load 4 = .ok (.aload_n 0, 1) := by decide +kernel
theorem dX7_load_5 : decode cX7_load 5 = .ok (.getfield 9, 3) := by decide +kernel
theorem dX7_load_8 : decode cX7_load 8 = .ok (.aload_n 0, 1) := by decide +kernel
theorem dX7_load_9 : decode cX7_load 9 = .ok (.getfield 66, 3) := by decide +kernel
theorem dX7_load_12 : decode cX7_load 12 = .ok (.invokevirtual 89, 3) := by decide +kernel
theorem dX7_load_15 : decode cX7_load 15 = .ok (.aload_n 0, 1) := by decide +kernel
theorem dX7_load_16 : decode cX7_load 16 = .ok (.iconst 0, 1) := by decide +kernel
theorem dX7_load_17 : decode cX7_load 17 = .ok (.putfield 66, 3) := by decide +kernel
theorem dX7_load_20 : decode cX7_load 20 = .ok (.aload_n 0, 1) := by decide +kernel
theorem dX7_load_21 : decode cX7_load 21 = .ok (.getfield 47, 3) := by decide +kernel
theorem dX7_load_24 : decode cX7_load 24 = .ok (.aload_n 0, 1) := by decide +kernel
theorem dX7_load_25 : decode cX7_load 25 = .ok (.getfield 40, 3) := by decide +kernel
theorem dX7_load_28 : decode cX7_load 28 = .ok (.invokevirtual 92, 3) := by decide +kernel
theorem dX7_load_31 : decode cX7_load 31 = .ok (.ifCond .ne 24, 3) := by decide +kernel
theorem dX7_load_34 : decode cX7_load 34 = .ok (.aload_n 0, 1) := by decide +kernel
theorem dX7_load_35 : decode cX7_load 35 = .ok (.aload_n 0, 1) := by decide +kernel
theorem dX7_load_36 : decode cX7_load 36 = .ok (.getfield 40, 3) := by decide +kernel
theorem dX7_load_39 : decode cX7_load 39 = .ok (.getfield 96, 3) := by decide +kernel
theorem dX7_load_42 : decode cX7_load 42 = .ok (.putfield 58, 3) := by decide +kernel
theorem dX7_load_45 : decode cX7_load 45 = .ok (.new 84, 3) := by decide +kernel
theorem dX7_load_48 : decode cX7_load 48 = .ok (.dup, 1) := by decide +kernel
theorem dX7_load_49 : decode cX7_load 49 = .ok (.ldc 99, 2) := by decide +kernel
theorem dX7_load_51 : decode cX7_load 51 = .ok (.invokespecial 88, 3) := by decide +kernel
theorem dX7_load_54 : decode cX7_load 54 = .ok (.athrow, 1) := by decide +kernel
theorem dX7_load_55 : decode cX7_load 55 = .ok (.aload_n 0, 1) := by decide +kernel
theorem dX7_load_56 : decode cX7_load 56 = .ok (.iconst (-1), 1) := by decide +kernel
theorem dX7_load_57 : decode cX7_load 57 = .ok (.putfield 58, 3) := by decide +kernel
theorem dX7_load_60 : decode cX7_load 60 = .ok (.aload_n 0, 1) := by decide +kernel
theorem dX7_load_61 : decode cX7_load 61 = .ok (.getfield 16, 3) := by decide +kernel
theorem dX7_load_64 : decode cX7_load 64 = .ok (.aload_n 0, 1) := by decide +kernel
theorem dX7_load_65 : decode cX7_load 65 = .ok (.getfield 47, 3) := by decide +kernel
theorem dX7_load_68 : decode cX7_load 68 = .ok (.getfield 101, 3) := by decide +kernel
theorem dX7_load_71 : decode cX7_load 71 = .ok (.aload_n 0, 1) := by decide +kernel
theorem dX7_load_72 : decode cX7_load 72 = .ok (.getfield 47, 3) := by decide +kernel
theorem dX7_load_75 : decode cX7_load 75 = .ok (.getfield 104, 3) := by decide +kernel
theorem dX7_load_78 : decode cX7_load 78 = .ok (.aload_n 0, 1) := by decide +kernel
theorem dX7_load_79 : decode cX7_load 79 = .ok (.getfield 47, 3) := by decide +kernel
theorem dX7_load_82 : decode cX7_load 82 = .ok (.getfield 107, 3) := by decide +kernel
theorem dX7_load_85 : decode cX7_load 85 = .ok (.aload_n 0, 1) := by decide +kernel
theorem dX7_load_86 : decode cX7_load 86 = .ok (.getfield 47, 3) := by decide +kernel
theorem dX7_load_89 : decode cX7_load 89 = .ok (.getfield 110, 3) := by decide +kernel
theorem dX7_load_92 : decode cX7_load 92 = .ok (.invokevirtual 62, 3) := by decide +kernel
theorem dX7_load_95 : decode cX7_load 95 = .ok (.iconst 0, 1) := by decide +kernel
theorem dX7_load_96 : decode cX7_load 96 = .ok (.istore_n 1, 1) := by decide +kernel
theorem dX7_load_97 : decode cX7_load 97 = .ok (.iload_n 1, 1) := by decide +kernel
theorem dX7_load_98 : decode cX7_load 98 = .ok (.aload_n 0, 1) := by decide +kernel
theorem dX7_load_99 : decode cX7_load 99 = .ok (.getfield 47, 3) := by decide +kernel
theorem dX7_load_102 : decode cX7_load 102 = .ok (.getfield 113, 3) := by decide +kernel
theorem dX7_load_105 : decode cX7_load 105 = .ok (.if_icmp .ge 28, 3) := by decide +kernel
theorem dX7_load_108 : decode cX7_load 108 = .ok (.aload_n 0, 1) := by decide +kernel
theorem dX7_load_109 : decode cX7_load 109 = .ok (.getfield 16, 3) := by decide +kernel
theorem dX7_load_112 : decode cX7_load 112 = .ok (.aload_n 0, 1) := by decide +kernel
theorem dX7_load_113 : decode cX7_load 113 = .ok (.getfield 47, 3) := by decide +kernel
theorem dX7_load_116 : decode cX7_load 116 = .ok (.getfield 116, 3) := by decide +kernel
theorem dX7_load_119 : decode cX7_load 119 = .ok (.iload_n 1, 1) := by decide +kernel
theorem dX7_load_120 : decode cX7_load 120 = .ok (.invokestatic 119, 3) := by decide +kernel
theorem dX7_load_123 : decode cX7_load 123 = .ok (.invokevirtual 123, 3) := by decide +kernel
theorem dX7_load_126 : decode cX7_load 126 = .ok (.pop, 1) := by decide +kernel
theorem dX7_load_127 : decode cX7_load 127 = .ok (.iinc 1 1, 3) := by decide +kernel
theorem dX7_load_130 : decode cX7_load 130 = .ok (.goto (-33), 3) := by decide +kernel
theorem dX7_load_133 : decode cX7_load 133 = .ok (.aload_n 0, 1) := by decide +kernel
theorem dX7_load_134 : decode cX7_load 134 = .ok (.getfield 23, 3) := by decide +kernel
theorem dX7_load_137 : decode cX7_load 137 = .ok (.invokevirtual 127, 3) := by decide +kernel
theorem dX7_load_140 : decode cX7_load 140 = .ok (.aload_n 0, 1) := by decide +kernel
theorem dX7_load_141 : decode cX7_load 141 = .ok (.iconst 0, 1) := by decide +kernel
theorem dX7_load_142 : decode cX7_load 142 = .ok (.putfield 130, 3) := by decide +kernel
theorem dX7_load_145 : decode cX7_load 145 = .ok (.aload_n 0, 1) := by decide +kernel
theorem dX7_load_146 : decode cX7_load 146 = .ok (.getfield 16, 3) := by decide +kernel
theorem dX7_load_149 : decode cX7_load 149 = .ok (.getfield 133, 3) := by decide +kernel
theorem dX7_load_152 : decode cX7_load 152 = .ok (.ireturn, 1) := by decide +kernel
set_option maxRecDepth 20000 in
theorem ggX7_decode_X6_begin : GoodIn wsX7_decode wsX6_begin := goodIn_r _ [15, 16, 17, 18, 19, 20, 167, 168, 169, 170, 171] (by decide +kernel) (by decide +kernel)
set_option maxRecDepth 20000 in
theorem gX7_decode_X6_begin : GoodIn wsX7_decode (wsV RX7 89 RX6 yX6_begin wsX6_begin) := goodIn_app (goodIn_of _ (by decide +kernel)) ggX7_decode_X6_begin
set_option maxRecDepth 20000 in
theorem ggX7_decode_X0_begin : GoodIn wsX7_decode wsX0_begin := goodIn_r _ [25, 26, 27, 28, 29, 30, 31, 32, 33, 34, 35, 36, 37, 38, 39, 40, 41, 42, 43, 44, 45, 46, 47, 48, 172, 173, 174, 175, 176, 177, 178, 179, 180, 181, 182, 183] (by decide +kernel) (by decide +kernel)
set_option maxRecDepth 20000 in
theorem gX7_decode_X0_begin : GoodIn wsX7_decode (wsV RX7 140 RX0 yX0_begin wsX0_begin) := goodIn_app (goodIn_of _ (by decide +kernel)) ggX7_decode_X0_begin
set_option maxRecDepth 20000 in
theorem ggX7_decode_X0_readCodes : GoodIn wsX7_decode wsX0_readCodes := goodIn_r _ [52, 53, 54, 55, 14, 56, 20, 19, 17, 16, 18, 57, 58, 59, 60, 61, 62, 63, 64, 65, 66, 67, 68, 69, 70, 71, 72, 73, 74, 75, 76, 77, 78, 79, 80, 81, 82, 83, 24, 84, 26, 27, 85, 37, 38, 32, 39, 34, 40, 41, 42, 43, 44, 45, 46, 47, 48, 86, 87, 88, 89, 90, 91, 92, 93, 28, 94, 95, 96, 97, 98, 99, 100, 101, 102, 103, 104, 105, 106, 107, 108, 109, 110, 111, 112, 113, 114, 115, 116, 117, 118, 119, 120, 35, 121, 122, 123, 124, 125, 126, 127, 128, 129, 130, 167, 168, 169, 170, 171, 172, 173, 174, 175, 176, 177, 178, 179, 180, 181, 182, 183] (by decide +kernel) (by decide +kernel)
set_option maxRecDepth 20000 in
theorem gX7_decode_X0_readCodes : GoodIn wsX7_decode (wsV RX7 143 RX0 yX0_readCodes wsX0_readCodes) := goodIn_app (goodIn_of _ (by decide +kernel)) ggX7_decode_X0_readCodes
set_option maxRecDepth 20000 in
theorem ggX7_decode_X7_copyRow : GoodIn wsX7_decode wsX7_copyRow := goodIn_r _ [133, 134, 135, 136, 137, 138, 139, 140, 141] (by decide +kernel) (by decide +kernel)
set_option maxRecDepth 20000 in
theorem gX7_decode_X7_copyRow : GoodIn wsX7_decode (va_wsS RX7 150 yX7_copyRow wsX7_copyRow) := goodIn_app (goodIn_of _ (by decide +kernel)) ggX7_decode_X7_copyRow
theorem dX7_decode_0 : decode cX7_decode 0 = .ok (.aload_n 0, 1) := by decide +kernel
theorem dX7_decode_1 : decode cX7_decode 1 = .ok (.getfield 40, 3) := by decide +kernel
theorem dX7_decode_4 : decode cX7_decode 4 = .ok (.aload_n 0, 1) := by decide +kernel
theorem dX7_decode_5 : decode cX7_decode 5 = .ok (.getfield 9, 3) := by decide +kernel
theorem dX7_decode_8 : decode cX7_decode 8 = .ok (.aload_n 0, 1) := by decide +kernel
theorem dX7_decode_9 : decode cX7_decode 9 = .ok (.getfield 66, 3) := by decide +kernel
theorem dX7_decode_12 : decode cX7_decode 12 = .ok (.invokevirtual 89, 3) := by decide +kernel
theorem dX7_decode_15 : decode cX7_decode 15 = .ok (.aload_n 0, 1) := by decide +kernel
theorem dX7_decode_16 : decode cX7_decode 16 = .ok (.iconst 0, 1) := by decide +kernel
theorem dX7_decode_17 : decode cX7_decode 17 = .ok (.putfield 66, 3) := by decide +kernel
theorem dX7_decode_20 : decode cX7_decode 20 = .ok (.aload_n 0, 1) := by decide +kernel
theorem dX7_decode_21 : decode cX7_decode 21 = .ok (.getfield 33, 3) := by decide +kernel
theorem dX7_decode_24 : decode cX7_decode 24 = .ok (.aload_n 0, 1) := by decide +kernel
theorem dX7_decode_25 : decode cX7_decode 25 = .ok (.getfield 16, 3) := by decide +kernel
theorem dX7_decode_28 : decode cX7_decode 28 = .ok (.getfield 136, 3) := by decide +kernel
theorem dX7_decode_31 : decode cX7_decode 31 = .ok (.invokevirtual 140, 3) := by decide +kernel
theorem dX7_decode_34 : decode cX7_decode 34 = .ok (.aload_n 0, 1) := by decide +kernel
theorem dX7_decode_35 : decode cX7_decode 35 = .ok (.getfield 33, 3) := by decide +kernel
theorem dX7_decode_38 : decode cX7_decode 38 = .ok (.aload_n 0, 1) := by decide +kernel
theorem dX7_decode_39 : decode cX7_decode 39 = .ok (.getfield 40, 3) := by decide +kernel
theorem dX7_decode_42 : decode cX7_decode 42 = .ok (.invokevirtual 143, 3) := by decide +kernel
theorem dX7_decode_45 : decode cX7_decode 45 = .ok (.ifCond .ne 24, 3) := by decide +kernel
theorem dX7_decode_48 : decode cX7_decode 48 = .ok (.aload_n 0, 1) := by decide +kernel
theorem dX7_decode_49 : decode cX7_decode 49 = .ok (.aload_n 0, 1) := by decide +kernel
theorem dX7_decode_50 : decode cX7_decode 50 = .ok (.getfield 40, 3) := by decide +kernel
theorem dX7_decode_53 : decode cX7_decode 53 = .ok (.getfield 96, 3) := by decide +kernel
theorem dX7_decode_56 : decode cX7_decode 56 = .ok (.putfield 58, 3) := by decide +kernel
theorem dX7_decode_59 : decode cX7_decode 59 = .ok (.new 84, 3) := by decide +kernel
theorem dX7_decode_62 : decode cX7_decode 62 = .ok (.dup, 1) := by decide +kernel
theorem dX7_decode_63 : decode cX7_decode 63 = .ok (.ldc 146, 2) := by decide +kernel
theorem dX7_decode_65 : decode cX7_decode 65 = .ok (.invokespecial 88, 3) := by decide +kernel
theorem dX7_decode_68 : decode cX7_decode 68 = .ok (.athrow, 1) := by decide +kernel
theorem dX7_decode_69 : decode cX7_decode 69 = .ok (.aload_n 0, 1) := by decide +kernel
theorem dX7_decode_70 : decode cX7_decode 70 = .ok (.iconst (-1), 1) := by decide +kernel
theorem dX7_decode_71 : decode cX7_decode 71 = .ok (.putfield 58, 3) := by decide +kernel
theorem dX7_decode_74 : decode cX7_decode 74 = .ok (.aload_n 0, 1) := by decide +kernel
theorem dX7_decode_75 : decode cX7_decode 75 = .ok (.getfield 33, 3) := by decide +kernel
theorem dX7_decode_78 : decode cX7_decode 78 = .ok (.getfield 148, 3) := by decide +kernel
theorem dX7_decode_81 : decode cX7_decode 81 = .ok (.aload_n 0, 1) := by decide +kernel
theorem dX7_decode_82 : decode cX7_decode 82 = .ok (.getfield 27, 3) := by decide +kernel
theorem dX7_decode_85 : decode cX7_decode 85 = .ok (.aload_n 0, 1) := by decide +kernel
theorem dX7_decode_86 : decode cX7_decode 86 = .ok (.getfield 33, 3) := by decide +kernel
theorem dX7_decode_89 : decode cX7_decode 89 = .ok (.getfield 149, 3) := by decide +kernel
theorem dX7_decode_92 : decode cX7_decode 92 = .ok (.invokestatic 150, 3) := by decide +kernel
theorem dX7_decode_95 : decode cX7_decode 95 = .ok (.aload_n 0, 1) := by decide +kernel
theorem dX7_decode_96 : decode cX7_decode 96 = .ok (.aload_n 0, 1) := by decide +kernel
theorem dX7_decode_97 : decode cX7_decode 97 = .ok (.getfield 33, 3) := by decide +kernel
theorem dX7_decode_100 : decode cX7_decode 100 = .ok (.getfield 149, 3) := by decide +kernel
theorem dX7_decode_103 : decode cX7_decode 103 = .ok (.putfield 130, 3) := by decide +kernel
theorem dX7_decode_106 : decode cX7_decode 106 = .ok (.aload_n 0, 1) := by decide +kernel
theorem dX7_decode_107 : decode cX7_decode 107 = .ok (.getfield 130, 3) := by decide +kernel
theorem dX7_decode_110 : decode cX7_decode 110 = .ok (.ireturn, 1) := by decide +kernel
theorem dX7_errorPosition_0 : decode cX7_errorPosition 0 = .ok (.aload_n 0, 1) := by decide +kernel
theorem dX7_errorPosition_1 : decode cX7_errorPosition 1 = .ok (.getfield 58, 3) := by decide +kernel
theorem dX7_errorPosition_4 : decode cX7_errorPosition 4 = .ok (.ireturn, 1) := by decide +kernel
set_option maxRecDepth 20000 in
theorem ggX7_encode_X7_requireSymbol : GoodIn wsX7_encode wsX7_requireSymbol := goodIn_ca (goodIn_r _ [9, 10, 11, 12, 13, 14, 8, 15, 3, 154, 155, 156, 157, 158, 159, 160, 161, 162, 163, 164, 165, 166, 167, 168, 169, 170, 171, 172, 173, 174, 175, 176, 177, 178, 179, 180, 181, 182, 183, 184, 185, 186] (by decide +kernel) (by decide +kernel)) (goodIn_sub (fun _ h => List.mem_cons_of_mem _ (List.mem_append_right _ h)) (by decide +kernel))
set_option maxRecDepth 20000 in
theorem gX7_encode_X7_requireSymbol : GoodIn wsX7_encode (wsV RX7 154 RX7 yX7_requireSymbol wsX7_requireSymbol) := goodIn_app (goodIn_of _ (by decide +kernel)) ggX7_encode_X7_requireSymbol
set_option maxRecDepth 20000 in
theorem ggX7_encode_X3_remember : GoodIn wsX7_encode wsX3_remember := goodIn_r _ [20, 21, 22, 23, 24, 25, 26, 27, 28, 29, 19, 30, 31, 32, 33, 34, 35, 36, 37, 38, 39, 40, 41, 42, 43, 44, 45, 46, 47, 48, 49, 50, 51, 52, 53, 54, 55, 56, 57, 58, 59, 60, 61, 62, 63, 64, 65, 66, 67, 68, 8, 69, 70, 71, 72, 73, 74, 187, 188, 189, 190, 165, 166, 167, 168, 169, 170, 171, 172, 173, 174, 175, 176, 177, 178, 179, 180, 181, 182, 183, 184, 185, 186] (by decide +kernel) (by decide +kernel)
set_option maxRecDepth 20000 in
theorem gX7_encode_X3_remember : GoodIn wsX7_encode (wsV RX7 159 RX3 yX3_remember wsX3_remember) := goodIn_app (goodIn_of _ (by decide +kernel)) ggX7_encode_X3_remember
set_option maxRecDepth 20000 in
theorem ggX7_encode_X2_takeSymbol : GoodIn wsX7_encode wsX2_takeSymbol := goodIn_r _ [78, 44, 41, 46, 45, 79, 80, 81, 39, 82, 83, 84, 85, 58, 86, 66, 60, 64, 67, 87, 8, 88, 89, 90, 91, 92, 42, 54, 53, 43, 93, 94, 95, 96, 62, 97, 98, 99, 100, 61, 101, 102, 103, 104, 105, 106, 107, 108, 109, 110, 65, 111, 112, 113, 114, 115, 116, 117, 118, 119, 120, 121, 122, 123, 124, 125, 126, 52, 127, 128, 129, 130, 48, 47, 49, 50, 131, 132, 133, 134, 135, 136, 51, 137, 138, 139, 140, 141, 142, 143, 144, 145, 146, 147, 148, 63, 149, 150, 151, 152, 153, 165, 166, 167, 168, 169, 170, 171, 172, 173, 174, 175, 176, 177, 178, 179, 180, 181, 182, 183, 184, 185, 186] (by decide +kernel) (by decide +kernel)
set_option maxRecDepth 20000 in
theorem gX7_encode_X2_takeSymbol : GoodIn wsX7_encode (wsV RX7 123 RX2 yX2_takeSymbol wsX2_takeSymbol) := goodIn_app (goodIn_of _ (by decide +kernel)) ggX7_encode_X2_takeSymbol
theorem dX7_encode_0 : decode cX7_encode 0 = .ok (.aload_n 0, 1) := by decide +kernel
theorem dX7_encode_1 : decode cX7_encode 1 = .ok (.iload_n 1, 1) := by decide +kernel
theorem dX7_encode_2 : decode cX7_encode 2 = .ok (.invokevirtual 154, 3) := by decide +kernel
theorem dX7_encode_5 : decode cX7_encode 5 = .ok (.aload_n 0, 1) := by decide +kernel
theorem dX7_encode_6 : decode cX7_encode 6 = .ok (.getfield 16, 3) := by decide +kernel
theorem dX7_encode_9 : decode cX7_encode 9 = .ok (.getfield 133, 3) := by decide +kernel
theorem dX7_encode_12 : decode cX7_encode 12 = .ok (.sipush 400, 3) := by decide +kernel
theorem dX7_encode_15 : decode cX7_encode 15 = .ok (.if_icmp .lt 13, 3) := by decide +kernel
theorem dX7_encode_18 : decode cX7_encode 18 = .ok (.new 69, 3) := by decide +kernel
theorem dX7_encode_21 : decode cX7_encode 21 = .ok (.dup, 1) := by decide +kernel
theorem dX7_encode_22 : decode cX7_encode 22 = .ok (.ldc 157, 2) := by decide +kernel
theorem dX7_encode_24 : decode cX7_encode 24 = .ok (.invokespecial 73, 3) := by decide +kernel
theorem dX7_encode_27 : decode cX7_encode 27 = .ok (.athrow, 1) := by decide +kernel
theorem dX7_encode_28 : decode cX7_encode 28 = .ok (.aload_n 0, 1) := by decide +kernel
theorem dX7_encode_29 : decode cX7_encode 29 = .ok (.getfield 23, 3) := by decide +kernel
theorem dX7_encode_32 : decode cX7_encode 32 = .ok (.aload_n 0, 1) := by decide +kernel
theorem dX7_encode_33 : decode cX7_encode 33 = .ok (.getfield 16, 3) := by decide +kernel
theorem dX7_encode_36 : decode cX7_encode 36 = .ok (.invokevirtual 159, 3) := by decide +kernel
theorem dX7_encode_39 : decode cX7_encode 39 = .ok (.aload_n 0, 1) := by decide +kernel
theorem dX7_encode_40 : decode cX7_encode 40 = .ok (.getfield 16, 3) := by decide +kernel
theorem dX7_encode_43 : decode cX7_encode 43 = .ok (.iload_n 1, 1) := by decide +kernel
theorem dX7_encode_44 : decode cX7_encode 44 = .ok (.invokevirtual 123, 3) := by decide +kernel
theorem dX7_encode_47 : decode cX7_encode 47 = .ok (.ireturn, 1) := by decide +kernel
set_option maxRecDepth 20000 in
theorem ggX7_encodeTape_X7_at : GoodIn wsX7_encodeTape wsX7_at := goodIn_r _ [12] (by decide +kernel) (by decide +kernel)
set_option maxRecDepth 20000 in
theorem gX7_encodeTape_X7_at : GoodIn wsX7_encodeTape (va_wsS RX7 119 yX7_at wsX7_at) := goodIn_app (goodIn_of _ (by decide +kernel)) ggX7_encodeTape_X7_at
set_option maxRecDepth 20000 in
theorem ggX7_encodeTape_X7_isSymbol : GoodIn wsX7_encodeTape wsX7_isSymbol := goodIn_r _ [16, 7, 153, 154, 155, 156, 157, 158, 159, 160, 161, 162, 163, 164, 165, 166, 167, 168, 169, 170, 171, 172, 173, 174, 175, 176, 177, 178, 179, 180, 181, 182, 183, 184, 185] (by decide +kernel) (by decide +kernel)
set_option maxRecDepth 20000 in
theorem gX7_encodeTape_X7_isSymbol : GoodIn wsX7_encodeTape (wsV RX7 163 RX7 yX7_isSymbol wsX7_isSymbol) := goodIn_app (goodIn_of _ (by decide +kernel)) ggX7_encodeTape_X7_isSymbol
set_option maxRecDepth 20000 in
theorem ggX7_encodeTape_X3_remember : GoodIn wsX7_encodeTape wsX3_remember := goodIn_r _ [21, 22, 23, 24, 25, 26, 27, 28, 29, 30, 20, 31, 32, 33, 34, 35, 36, 37, 38, 39, 40, 41, 42, 43, 44, 45, 46, 47, 48, 49, 50, 51, 52, 53, 54, 55, 56, 57, 58, 59, 60, 61, 62, 63, 64, 65, 66, 67, 68, 69, 11, 70, 71, 72, 73, 74, 75, 186, 187, 188, 189, 164, 165, 166, 167, 168, 169, 170, 171, 172, 173, 174, 175, 176, 177, 178, 179, 180, 181, 182, 183, 184, 185] (by decide +kernel) (by decide +kernel)
set_option maxRecDepth 20000 in
theorem gX7_encodeTape_X3_remember : GoodIn wsX7_encodeTape (wsV RX7 159 RX3 yX3_remember wsX3_remember) := goodIn_app (goodIn_of _ (by decide +kernel)) ggX7_encodeTape_X3_remember
set_option maxRecDepth 20000 in
theorem ggX7_encodeTape_X2_takeSymbol : GoodIn wsX7_encodeTape wsX2_takeSymbol := goodIn_r _ [79, 45, 42, 47, 46, 80, 81, 82, 40, 83, 84, 85, 86, 59, 87, 67, 61, 65, 68, 10, 11, 12, 88, 89, 90, 91, 43, 55, 54, 44, 92, 93, 94, 95, 63, 96, 97, 98, 99, 62, 100, 101, 102, 103, 104, 105, 106, 107, 108, 109, 66, 110, 111, 112, 113, 114, 115, 116, 117, 118, 119, 120, 121, 122, 123, 124, 125, 53, 126, 127, 128, 129, 49, 48, 50, 51, 130, 131, 132, 133, 134, 135, 52, 136, 137, 138, 139, 140, 141, 142, 143, 144, 145, 146, 147, 64, 148, 149, 150, 151, 152, 164, 165, 166, 167, 168, 169, 170, 171, 172, 173, 174, 175, 176, 177, 178, 179, 180, 181, 182, 183, 184, 185] (by decide +kernel) (by decide +kernel)
set_option maxRecDepth 20000 in
theorem gX7_encodeTape_X2_takeSymbol : GoodIn wsX7_encodeTape (wsV RX7 123 RX2 yX2_takeSymbol wsX2_takeSymbol) := goodIn_app (goodIn_of _ (by decide +kernel)) ggX7_encodeTape_X2_takeSymbol
theorem dX7_encodeTape_0 : decode cX7_encodeTape 0 = .ok (.iconst 0, 1) := by decide +kernel
theorem dX7_encodeTape_1 : decode cX7_encodeTape 1 = .ok (.istore_n 1, 1) := by decide +kernel
theorem dX7_encodeTape_2 : decode cX7_encodeTape 2 = .ok (.iload_n 1, 1) := by decide +kernel
theorem dX7_encodeTape_3 : decode cX7_encodeTape 3 = .ok (.aload_n 0, 1) := by decide +kernel
theorem dX7_encodeTape_4 : decode cX7_encodeTape 4 = .ok (.getfield 66, 3) := by decide +kernel
theorem dX7_encodeTape_7 : decode cX7_encodeTape 7 = .ok (.if_icmp .ge 37, 3) := by decide +kernel
theorem dX7_encodeTape_10 : decode cX7_encodeTape 10 = .ok (.aload_n 0, 1) := by decide +kernel
theorem dX7_encodeTape_11 : decode cX7_encodeTape 11 = .ok (.aload_n 0, 1) := by decide +kernel
theorem dX7_encodeTape_12 : decode cX7_encodeTape 12 = .ok (.getfield 9, 3) := by decide +kernel
theorem dX7_encodeTape_15 : decode cX7_encodeTape 15 = .ok (.iload_n 1, 1) := by decide +kernel
theorem dX7_encodeTape_16 : decode cX7_encodeTape 16 = .ok (.invokestatic 119, 3) := by decide +kernel
theorem dX7_encodeTape_19 : decode cX7_encodeTape 19 = .ok (.bipush 97, 2) := by decide +kernel
theorem dX7_encodeTape_21 : decode cX7_encodeTape 21 = .ok (.isub, 1) := by decide +kernel
theorem dX7_encodeTape_22 : decode cX7_encodeTape 22 = .ok (.invokevirtual 163, 3) := by decide +kernel
theorem dX7_encodeTape_25 : decode cX7_encodeTape 25 = .ok (.ifCond .ne 13, 3) := by decide +kernel
theorem dX7_encodeTape_28 : decode cX7_encodeTape 28 = .ok (.new 84, 3) := by decide +kernel
theorem dX7_encodeTape_31 : decode cX7_encodeTape 31 = .ok (.dup, 1) := by decide +kernel
theorem dX7_encodeTape_32 : decode cX7_encodeTape 32 = .ok (.ldc 167, 2) := by decide +kernel
theorem dX7_encodeTape_34 : decode cX7_encodeTape 34 = .ok (.invokespecial 88, 3) := by decide +kernel
theorem dX7_encodeTape_37 : decode cX7_encodeTape 37 = .ok (.athrow, 1) := by decide +kernel
theorem dX7_encodeTape_38 : decode cX7_encodeTape 38 = .ok (.iinc 1 1, 3) := by decide +kernel
theorem dX7_encodeTape_41 : decode cX7_encodeTape 41 = .ok (.goto (-39), 3) := by decide +kernel
theorem dX7_encodeTape_44 : decode cX7_encodeTape 44 = .ok (.aload_n 0, 1) := by decide +kernel
theorem dX7_encodeTape_45 : decode cX7_encodeTape 45 = .ok (.getfield 16, 3) := by decide +kernel
theorem dX7_encodeTape_48 : decode cX7_encodeTape 48 = .ok (.getfield 133, 3) := by decide +kernel
theorem dX7_encodeTape_51 : decode cX7_encodeTape 51 = .ok (.aload_n 0, 1) := by decide +kernel
theorem dX7_encodeTape_52 : decode cX7_encodeTape 52 = .ok (.getfield 66, 3) := by decide +kernel
theorem dX7_encodeTape_55 : decode cX7_encodeTape 55 = .ok (.iadd, 1) := by decide +kernel
theorem dX7_encodeTape_56 : decode cX7_encodeTape 56 = .ok (.sipush 400, 3) := by decide +kernel
theorem dX7_encodeTape_59 : decode cX7_encodeTape 59 = .ok (.if_icmp .le 13, 3) := by decide +kernel
theorem dX7_encodeTape_62 : decode cX7_encodeTape 62 = .ok (.new 69, 3) := by decide +kernel
theorem dX7_encodeTape_65 : decode cX7_encodeTape 65 = .ok (.dup, 1) := by decide +kernel
theorem dX7_encodeTape_66 : decode cX7_encodeTape 66 = .ok (.ldc 169, 2) := by decide +kernel
theorem dX7_encodeTape_68 : decode cX7_encodeTape 68 = .ok (.invokespecial 73, 3) := by decide +kernel
theorem dX7_encodeTape_71 : decode cX7_encodeTape 71 = .ok (.athrow, 1) := by decide +kernel
theorem dX7_encodeTape_72 : decode cX7_encodeTape 72 = .ok (.aload_n 0, 1) := by decide +kernel
theorem dX7_encodeTape_73 : decode cX7_encodeTape 73 = .ok (.getfield 23, 3) := by decide +kernel
theorem dX7_encodeTape_76 : decode cX7_encodeTape 76 = .ok (.aload_n 0, 1) := by decide +kernel
theorem dX7_encodeTape_77 : decode cX7_encodeTape 77 = .ok (.getfield 16, 3) := by decide +kernel
theorem dX7_encodeTape_80 : decode cX7_encodeTape 80 = .ok (.invokevirtual 159, 3) := by decide +kernel
theorem dX7_encodeTape_83 : decode cX7_encodeTape 83 = .ok (.iconst 0, 1) := by decide +kernel
theorem dX7_encodeTape_84 : decode cX7_encodeTape 84 = .ok (.istore_n 1, 1) := by decide +kernel
theorem dX7_encodeTape_85 : decode cX7_encodeTape 85 = .ok (.iconst 0, 1) := by decide +kernel
theorem dX7_encodeTape_86 : decode cX7_encodeTape 86 = .ok (.istore_n 2, 1) := by decide +kernel
theorem dX7_encodeTape_87 : decode cX7_encodeTape 87 = .ok (.iload_n 2, 1) := by decide +kernel
theorem dX7_encodeTape_88 : decode cX7_encodeTape 88 = .ok (.aload_n 0, 1) := by decide +kernel
theorem dX7_encodeTape_89 : decode cX7_encodeTape 89 = .ok (.getfield 66, 3) := by decide +kernel
theorem dX7_encodeTape_92 : decode cX7_encodeTape 92 = .ok (.if_icmp .ge 30, 3) := by decide +kernel
theorem dX7_encodeTape_95 : decode cX7_encodeTape 95 = .ok (.iload_n 1, 1) := by decide +kernel
theorem dX7_encodeTape_96 : decode cX7_encodeTape 96 = .ok (.aload_n 0, 1) := by decide +kernel
theorem dX7_encodeTape_97 : decode cX7_encodeTape 97 = .ok (.getfield 16, 3) := by decide +kernel
theorem dX7_encodeTape_100 : decode cX7_encodeTape 100 = .ok (.aload_n 0, 1) := by decide +kernel
theorem dX7_encodeTape_101 : decode cX7_encodeTape 101 = .ok (.getfield 9, 3) := by decide +kernel
theorem dX7_encodeTape_104 : decode cX7_encodeTape 104 = .ok (.iload_n 2, 1) := by decide +kernel
theorem dX7_encodeTape_105 : decode cX7_encodeTape 105 = .ok (.invokestatic 119, 3) := by decide +kernel
theorem dX7_encodeTape_108 : decode cX7_encodeTape 108 = .ok (.bipush 97, 2) := by decide +kernel
theorem dX7_encodeTape_110 : decode cX7_encodeTape 110 = .ok (.isub, 1) := by decide +kernel
theorem dX7_encodeTape_111 : decode cX7_encodeTape 111 = .ok (.invokevirtual 123, 3) := by decide +kernel
theorem dX7_encodeTape_114 : decode cX7_encodeTape 114 = .ok (.iadd, 1) := by decide +kernel
theorem dX7_encodeTape_115 : decode cX7_encodeTape 115 = .ok (.istore_n 1, 1) := by decide +kernel
theorem dX7_encodeTape_116 : decode cX7_encodeTape 116 = .ok (.iinc 2 1, 3) := by decide +kernel
theorem dX7_encodeTape_119 : decode cX7_encodeTape 119 = .ok (.goto (-32), 3) := by decide +kernel
theorem dX7_encodeTape_122 : decode cX7_encodeTape 122 = .ok (.aload_n 0, 1) := by decide +kernel
theorem dX7_encodeTape_123 : decode cX7_encodeTape 123 = .ok (.iconst 0, 1) := by decide +kernel
theorem dX7_encodeTape_124 : decode cX7_encodeTape 124 = .ok (.putfield 66, 3) := by decide +kernel
theorem dX7_encodeTape_127 : decode cX7_encodeTape 127 = .ok (.iload_n 1, 1) := by decide +kernel
theorem dX7_encodeTape_128 : decode cX7_encodeTape 128 = .ok (.ireturn, 1) := by decide +kernel
set_option maxRecDepth 20000 in
theorem ggX7_flush_X3_remember : GoodIn wsX7_flush wsX3_remember := goodIn_r _ [7, 8, 9, 10, 11, 12, 13, 14, 15, 16, 6, 17, 18, 19, 20, 21, 22, 23, 24, 25, 26, 27, 28, 29, 30, 31, 32, 33, 34, 35, 36, 37, 38, 39, 40, 41, 42, 43, 44, 45, 46, 47, 48, 49, 50, 51, 52, 53, 54, 55, 56, 57, 58, 59, 60, 61, 62, 116, 117, 118, 119, 120, 121, 122, 123, 124, 125, 126, 127, 128, 129, 130, 131, 132, 133, 134, 135, 136, 137, 138, 139, 140, 141] (by decide +kernel) (by decide +kernel)
set_option maxRecDepth 20000 in
theorem gX7_flush_X3_remember : GoodIn wsX7_flush (wsV RX7 159 RX3 yX3_remember wsX3_remember) := goodIn_app (goodIn_of _ (by decide +kernel)) ggX7_flush_X3_remember
set_option maxRecDepth 20000 in
theorem ggX7_flush_X2_endPhrase : GoodIn wsX7_flush wsX2_endPhrase := goodIn_r _ [66, 31, 67, 68, 69, 26, 70, 39, 40, 28, 41, 71, 72, 73, 45, 74, 52, 75, 56, 76, 77, 78, 79, 80, 49, 81, 82, 83, 84, 85, 86, 35, 34, 36, 37, 87, 88, 89, 90, 91, 92, 38, 93, 94, 95, 96, 97, 98, 99, 100, 47, 101, 102, 103, 104, 50, 51, 53, 120, 121, 122, 123, 124, 125, 126, 127, 128, 129, 130, 131, 132, 133, 134, 135, 136, 137, 138, 139, 140, 141] (by decide +kernel) (by decide +kernel)
set_option maxRecDepth 20000 in
theorem gX7_flush_X2_endPhrase : GoodIn wsX7_flush (wsV RX7 171 RX2 yX2_endPhrase wsX2_endPhrase) := goodIn_app (goodIn_of _ (by decide +kernel)) ggX7_flush_X2_endPhrase
theorem dX7_flush_0 : decode cX7_flush 0 = .ok (.aload_n 0, 1) := by decide +kernel
theorem dX7_flush_1 : decode cX7_flush 1 = .ok (.getfield 23, 3) := by decide +kernel
theorem dX7_flush_4 : decode cX7_flush 4 = .ok (.aload_n 0, 1) := by decide +kernel
theorem dX7_flush_5 : decode cX7_flush 5 = .ok (.getfield 16, 3) := by decide +kernel
theorem dX7_flush_8 : decode cX7_flush 8 = .ok (.invokevirtual 159, 3) := by decide +kernel
theorem dX7_flush_11 : decode cX7_flush 11 = .ok (.aload_n 0, 1) := by decide +kernel
theorem dX7_flush_12 : decode cX7_flush 12 = .ok (.getfield 16, 3) := by decide +kernel
theorem dX7_flush_15 : decode cX7_flush 15 = .ok (.invokevirtual 171, 3) := by decide +kernel
theorem dX7_flush_18 : decode cX7_flush 18 = .ok (.ireturn, 1) := by decide +kernel
set_option maxRecDepth 20000 in
theorem ggX7_restart_X3_remember : GoodIn wsX7_restart wsX3_remember := goodIn_r _ [7, 8, 9, 10, 11, 12, 13, 14, 15, 16, 6, 17, 18, 19, 20, 21, 22, 23, 24, 25, 26, 27, 28, 29, 30, 31, 32, 33, 34, 35, 36, 37, 38, 39, 40, 41, 42, 43, 44, 45, 46, 47, 48, 49, 50, 51, 52, 53, 54, 55, 56, 57, 58, 59, 60, 61, 62, 104, 105, 106, 107, 90, 91, 92, 93, 94, 95, 96, 97, 98, 99, 100, 101, 102, 103, 108, 109, 110, 111, 112, 113, 114, 115] (by decide +kernel) (by decide +kernel)
set_option maxRecDepth 20000 in
theorem gX7_restart_X3_remember : GoodIn wsX7_restart (wsV RX7 159 RX3 yX3_remember wsX3_remember) := goodIn_app (goodIn_of _ (by decide +kernel)) ggX7_restart_X3_remember
set_option maxRecDepth 20000 in
theorem ggX7_restart_X2_startAnew : GoodIn wsX7_restart wsX2_startAnew := goodIn_r _ [66, 28, 31, 32, 34, 37, 38, 67, 68, 69, 45, 70, 47, 49, 71, 72, 73, 74, 50, 51, 52, 53, 75, 76, 77, 26, 78, 39, 40, 41, 90, 91, 92, 93, 94, 95, 96, 97, 98, 99, 100, 101, 102, 103, 108, 109, 110, 111, 112, 113, 114, 115] (by decide +kernel) (by decide +kernel)
set_option maxRecDepth 20000 in
theorem gX7_restart_X2_startAnew : GoodIn wsX7_restart (wsV RX7 178 RX2 yX2_startAnew wsX2_startAnew) := goodIn_app (goodIn_of _ (by decide +kernel)) ggX7_restart_X2_startAnew
theorem dX7_restart_0 : decode cX7_restart 0 = .ok (.aload_n 0, 1) := by decide +kernel
theorem dX7_restart_1 : decode cX7_restart 1 = .ok (.getfield 23, 3) := by decide +kernel
theorem dX7_restart_4 : decode cX7_restart 4 = .ok (.aload_n 0, 1) := by decide +kernel
theorem dX7_restart_5 : decode cX7_restart 5 = .ok (.getfield 16, 3) := by decide +kernel
theorem dX7_restart_8 : decode cX7_restart 8 = .ok (.invokevirtual 159, 3) := by decide +kernel
theorem dX7_restart_11 : decode cX7_restart 11 = .ok (.aload_n 0, 1) := by decide +kernel
theorem dX7_restart_12 : decode cX7_restart 12 = .ok (.getfield 16, 3) := by decide +kernel
theorem dX7_restart_15 : decode cX7_restart 15 = .ok (.getfield 175, 3) := by decide +kernel
theorem dX7_restart_18 : decode cX7_restart 18 = .ok (.istore_n 1, 1) := by decide +kernel
theorem dX7_restart_19 : decode cX7_restart 19 = .ok (.aload_n 0, 1) := by decide +kernel
theorem dX7_restart_20 : decode cX7_restart 20 = .ok (.getfield 16, 3) := by decide +kernel
theorem dX7_restart_23 : decode cX7_restart 23 = .ok (.invokevirtual 178, 3) := by decide +kernel
theorem dX7_restart_26 : decode cX7_restart 26 = .ok (.iload_n 1, 1) := by decide +kernel
theorem dX7_restart_27 : decode cX7_restart 27 = .ok (.ireturn, 1) := by decide +kernel
set_option maxRecDepth 20000 in
theorem ggX7_setPolicy_X3_remember : GoodIn wsX7_setPolicy wsX3_remember := goodIn_r _ [9, 10, 11, 12, 13, 14, 15, 16, 17, 18, 8, 19, 20, 21, 22, 23, 24, 25, 26, 27, 28, 29, 30, 31, 32, 33, 34, 35, 36, 37, 38, 39, 40, 41, 42, 43, 44, 45, 46, 47, 48, 49, 50, 51, 52, 53, 54, 55, 56, 57, 58, 59, 60, 61, 62, 63, 64, 90, 91, 92, 93, 76, 77, 78, 79, 80, 81, 82, 83, 84, 85, 86, 87, 88, 89, 94, 95, 96, 97, 98, 99, 100, 101] (by decide +kernel) (by decide +kernel)
set_option maxRecDepth 20000 in
theorem gX7_setPolicy_X3_remember : GoodIn wsX7_setPolicy (wsV RX7 159 RX3 yX3_remember wsX3_remember) := goodIn_app (goodIn_of _ (by decide +kernel)) ggX7_setPolicy_X3_remember
theorem dX7_setPolicy_0 : decode cX7_setPolicy 0 = .ok (.iload_n 1, 1) := by decide +kernel
theorem dX7_setPolicy_1 : decode cX7_setPolicy 1 = .ok (.ifCond .eq 23, 3) := by decide +kernel
theorem dX7_setPolicy_4 : decode cX7_setPolicy 4 = .ok (.iload_n 1, 1) := by decide +kernel
theorem dX7_setPolicy_5 : decode cX7_setPolicy 5 = .ok (.iconst 1, 1) := by decide +kernel
theorem dX7_setPolicy_6 : decode cX7_setPolicy 6 = .ok (.if_icmp .eq 18, 3) := by decide +kernel
theorem dX7_setPolicy_9 : decode cX7_setPolicy 9 = .ok (.iload_n 1, 1) := by decide +kernel
theorem dX7_setPolicy_10 : decode cX7_setPolicy 10 = .ok (.iconst 2, 1) := by decide +kernel
theorem dX7_setPolicy_11 : decode cX7_setPolicy 11 = .ok (.if_icmp .eq 13, 3) := by decide +kernel
theorem dX7_setPolicy_14 : decode cX7_setPolicy 14 = .ok (.new 84, 3) := by decide +kernel
theorem dX7_setPolicy_17 : decode cX7_setPolicy 17 = .ok (.dup, 1) := by decide +kernel
theorem dX7_setPolicy_18 : decode cX7_setPolicy 18 = .ok (.ldc 181, 2) := by decide +kernel
theorem dX7_setPolicy_20 : decode cX7_setPolicy 20 = .ok (.invokespecial 88, 3) := by decide +kernel
theorem dX7_setPolicy_23 : decode cX7_setPolicy 23 = .ok (.athrow, 1) := by decide +kernel
theorem dX7_setPolicy_24 : decode cX7_setPolicy 24 = .ok (.aload_n 0, 1) := by decide +kernel
theorem dX7_setPolicy_25 : decode cX7_setPolicy 25 = .ok (.getfield 23, 3) := by decide +kernel
theorem dX7_setPolicy_28 : decode cX7_setPolicy 28 = .ok (.aload_n 0, 1) := by decide +kernel
theorem dX7_setPolicy_29 : decode cX7_setPolicy 29 = .ok (.getfield 16, 3) := by decide +kernel
theorem dX7_setPolicy_32 : decode cX7_setPolicy 32 = .ok (.invokevirtual 159, 3) := by decide +kernel
theorem dX7_setPolicy_35 : decode cX7_setPolicy 35 = .ok (.aload_n 0, 1) := by decide +kernel
theorem dX7_setPolicy_36 : decode cX7_setPolicy 36 = .ok (.getfield 16, 3) := by decide +kernel
theorem dX7_setPolicy_39 : decode cX7_setPolicy 39 = .ok (.getfield 183, 3) := by decide +kernel
theorem dX7_setPolicy_42 : decode cX7_setPolicy 42 = .ok (.istore_n 2, 1) := by decide +kernel
theorem dX7_setPolicy_43 : decode cX7_setPolicy 43 = .ok (.aload_n 0, 1) := by decide +kernel
theorem dX7_setPolicy_44 : decode cX7_setPolicy 44 = .ok (.getfield 16, 3) := by decide +kernel
theorem dX7_setPolicy_47 : decode cX7_setPolicy 47 = .ok (.iload_n 1, 1) := by decide +kernel
theorem dX7_setPolicy_48 : decode cX7_setPolicy 48 = .ok (.putfield 183, 3) := by decide +kernel
theorem dX7_setPolicy_51 : decode cX7_setPolicy 51 = .ok (.iload_n 2, 1) := by decide +kernel
theorem dX7_setPolicy_52 : decode cX7_setPolicy 52 = .ok (.ireturn, 1) := by decide +kernel
set_option maxRecDepth 20000 in
theorem ggX7_setLimit_X3_remember : GoodIn wsX7_setLimit wsX3_remember := goodIn_r _ [9, 10, 11, 12, 13, 14, 15, 16, 17, 18, 8, 19, 20, 21, 22, 23, 24, 25, 26, 27, 28, 29, 30, 31, 32, 33, 34, 35, 36, 37, 38, 39, 40, 41, 42, 43, 44, 45, 46, 47, 48, 49, 50, 51, 52, 53, 54, 55, 56, 57, 58, 59, 60, 61, 62, 63, 64, 90, 91, 92, 93, 76, 77, 78, 79, 80, 81, 82, 83, 84, 85, 86, 87, 88, 89, 94, 95, 96, 97, 98, 99, 100, 101] (by decide +kernel) (by decide +kernel)
set_option maxRecDepth 20000 in
theorem gX7_setLimit_X3_remember : GoodIn wsX7_setLimit (wsV RX7 159 RX3 yX3_remember wsX3_remember) := goodIn_app (goodIn_of _ (by decide +kernel)) ggX7_setLimit_X3_remember
theorem dX7_setLimit_0 : decode cX7_setLimit 0 = .ok (.iload_n 1, 1) := by decide +kernel
theorem dX7_setLimit_1 : decode cX7_setLimit 1 = .ok (.iconst 1, 1) := by decide +kernel
theorem dX7_setLimit_2 : decode cX7_setLimit 2 = .ok (.if_icmp .lt 10, 3) := by decide +kernel
theorem dX7_setLimit_5 : decode cX7_setLimit 5 = .ok (.iload_n 1, 1) := by decide +kernel
theorem dX7_setLimit_6 : decode cX7_setLimit 6 = .ok (.sipush 200, 3) := by decide +kernel
theorem dX7_setLimit_9 : decode cX7_setLimit 9 = .ok (.if_icmp .le 13, 3) := by decide +kernel
theorem dX7_setLimit_12 : decode cX7_setLimit 12 = .ok (.new 84, 3) := by decide +kernel
theorem dX7_setLimit_15 : decode cX7_setLimit 15 = .ok (.dup, 1) := by decide +kernel
theorem dX7_setLimit_16 : decode cX7_setLimit 16 = .ok (.ldc 184, 2) := by decide +kernel
theorem dX7_setLimit_18 : decode cX7_setLimit 18 = .ok (.invokespecial 88, 3) := by decide +kernel
theorem dX7_setLimit_21 : decode cX7_setLimit 21 = .ok (.athrow, 1) := by decide +kernel
theorem dX7_setLimit_22 : decode cX7_setLimit 22 = .ok (.aload_n 0, 1) := by decide +kernel
theorem dX7_setLimit_23 : decode cX7_setLimit 23 = .ok (.getfield 23, 3) := by decide +kernel
theorem dX7_setLimit_26 : decode cX7_setLimit 26 = .ok (.aload_n 0, 1) := by decide +kernel
theorem dX7_setLimit_27 : decode cX7_setLimit 27 = .ok (.getfield 16, 3) := by decide +kernel
theorem dX7_setLimit_30 : decode cX7_setLimit 30 = .ok (.invokevirtual 159, 3) := by decide +kernel
theorem dX7_setLimit_33 : decode cX7_setLimit 33 = .ok (.aload_n 0, 1) := by decide +kernel
theorem dX7_setLimit_34 : decode cX7_setLimit 34 = .ok (.getfield 16, 3) := by decide +kernel
theorem dX7_setLimit_37 : decode cX7_setLimit 37 = .ok (.getfield 186, 3) := by decide +kernel
theorem dX7_setLimit_40 : decode cX7_setLimit 40 = .ok (.istore_n 2, 1) := by decide +kernel
theorem dX7_setLimit_41 : decode cX7_setLimit 41 = .ok (.aload_n 0, 1) := by decide +kernel
theorem dX7_setLimit_42 : decode cX7_setLimit 42 = .ok (.getfield 16, 3) := by decide +kernel
theorem dX7_setLimit_45 : decode cX7_setLimit 45 = .ok (.iload_n 1, 1) := by decide +kernel
theorem dX7_setLimit_46 : decode cX7_setLimit 46 = .ok (.putfield 186, 3) := by decide +kernel
theorem dX7_setLimit_49 : decode cX7_setLimit 49 = .ok (.iload_n 2, 1) := by decide +kernel
theorem dX7_setLimit_50 : decode cX7_setLimit 50 = .ok (.ireturn, 1) := by decide +kernel
set_option maxRecDepth 20000 in
theorem ggX7_save_X7_requireSlot : GoodIn wsX7_save wsX7_requireSlot := goodIn_ca (goodIn_r _ [6, 7, 8] (by decide +kernel) (by decide +kernel)) (goodIn_sub (fun _ h => List.mem_cons_of_mem _ (List.mem_append_right _ h)) (by decide +kernel))
set_option maxRecDepth 20000 in
theorem gX7_save_X7_requireSlot : GoodIn wsX7_save (va_wsS RX7 187 yX7_requireSlot wsX7_requireSlot) := goodIn_app (goodIn_of _ (by decide +kernel)) ggX7_save_X7_requireSlot
set_option maxRecDepth 20000 in
theorem ggX7_save_X3_saveIn : GoodIn wsX7_save wsX3_saveIn := goodIn_r _ [13, 14, 15, 16, 17, 12, 18, 19, 20, 21, 22, 23, 24, 25, 26, 27, 28, 29, 30, 31, 32, 33, 34, 35, 36, 37, 38, 39, 40, 41, 42, 43, 44, 45, 46, 47, 48, 49, 50, 51, 52, 53, 54, 55, 56, 5, 57, 58, 59, 60, 61, 62, 63, 64, 65, 77, 78, 79, 80, 81, 82, 83, 84, 85, 86, 87, 88, 89, 90, 91, 92, 93, 94, 95, 96, 97, 98, 99, 100, 101, 102] (by decide +kernel) (by decide +kernel)
set_option maxRecDepth 20000 in
theorem gX7_save_X3_saveIn : GoodIn wsX7_save (wsV RX7 190 RX3 yX3_saveIn wsX3_saveIn) := goodIn_app (goodIn_of _ (by decide +kernel)) ggX7_save_X3_saveIn
theorem dX7_save_0 : decode cX7_save 0 = .ok (.iload_n 1, 1) := by decide +kernel
theorem dX7_save_1 : decode cX7_save 1 = .ok (.invokestatic 187, 3) := by decide +kernel
theorem dX7_save_4 : decode cX7_save 4 = .ok (.aload_n 0, 1) := by decide +kernel
theorem dX7_save_5 : decode cX7_save 5 = .ok (.getfield 23, 3) := by decide +kernel
theorem dX7_save_8 : decode cX7_save 8 = .ok (.iload_n 1, 1) := by decide +kernel
theorem dX7_save_9 : decode cX7_save 9 = .ok (.aload_n 0, 1) := by decide +kernel
theorem dX7_save_10 : decode cX7_save 10 = .ok (.getfield 16, 3) := by decide +kernel
theorem dX7_save_13 : decode cX7_save 13 = .ok (.invokevirtual 190, 3) := by decide +kernel
theorem dX7_save_16 : decode cX7_save 16 = .ok (.return_, 1) := by decide +kernel
set_option maxRecDepth 20000 in
theorem ggX7_restore_X7_requireSlot : GoodIn wsX7_restore wsX7_requireSlot := goodIn_ca (goodIn_r _ [8, 9, 10] (by decide +kernel) (by decide +kernel)) (goodIn_sub (fun _ h => List.mem_cons_of_mem _ (List.mem_append_right _ h)) (by decide +kernel))
set_option maxRecDepth 20000 in
theorem gX7_restore_X7_requireSlot : GoodIn wsX7_restore (va_wsS RX7 187 yX7_requireSlot wsX7_requireSlot) := goodIn_app (goodIn_of _ (by decide +kernel)) ggX7_restore_X7_requireSlot
set_option maxRecDepth 20000 in
theorem ggX7_restore_X3_isSaved : GoodIn wsX7_restore wsX3_isSaved := goodIn_r _ [15, 16, 108, 109, 110, 111] (by decide +kernel) (by decide +kernel)
set_option maxRecDepth 20000 in
theorem gX7_restore_X3_isSaved : GoodIn wsX7_restore (wsV RX7 194 RX3 yX3_isSaved wsX3_isSaved) := goodIn_app (goodIn_of _ (by decide +kernel)) ggX7_restore_X3_isSaved
set_option maxRecDepth 20000 in
theorem ggX7_restore_X3_remember : GoodIn wsX7_restore wsX3_remember := goodIn_r _ [20, 21, 22, 23, 24, 25, 26, 27, 28, 29, 14, 30, 31, 32, 33, 34, 35, 36, 37, 38, 39, 40, 41, 42, 43, 44, 45, 46, 47, 48, 49, 50, 51, 52, 53, 54, 55, 56, 57, 58, 59, 60, 61, 62, 63, 64, 65, 66, 67, 68, 7, 69, 70, 71, 72, 73, 74, 108, 109, 110, 111, 94, 95, 96, 97, 98, 99, 100, 101, 102, 103, 104, 105, 106, 107, 112, 113, 114, 115, 116, 117, 118, 119] (by decide +kernel) (by decide +kernel)
set_option maxRecDepth 20000 in
theorem gX7_restore_X3_remember : GoodIn wsX7_restore (wsV RX7 159 RX3 yX3_remember wsX3_remember) := goodIn_app (goodIn_of _ (by decide +kernel)) ggX7_restore_X3_remember
set_option maxRecDepth 20000 in
theorem ggX7_restore_X3_fetchSaved : GoodIn wsX7_restore wsX3_fetchSaved := goodIn_r _ [78, 79, 80, 81, 14, 82, 31, 32, 33, 34, 35, 36, 37, 38, 39, 40, 41, 42, 43, 44, 45, 46, 47, 48, 49, 50, 51, 52, 53, 54, 55, 56, 57, 58, 59, 60, 61, 62, 63, 64, 65, 66, 67, 68, 7, 69, 70, 24, 25, 26, 71, 72, 73, 74, 108, 109, 110, 111, 94, 95, 96, 97, 98, 99, 100, 101, 102, 103, 104, 105, 106, 107, 112, 113, 114, 115, 116, 117, 118, 119] (by decide +kernel) (by decide +kernel)
set_option maxRecDepth 20000 in
theorem gX7_restore_X3_fetchSaved : GoodIn wsX7_restore (wsV RX7 202 RX3 yX3_fetchSaved wsX3_fetchSaved) := goodIn_app (goodIn_of _ (by decide +kernel)) ggX7_restore_X3_fetchSaved
theorem dX7_restore_0 : decode cX7_restore 0 = .ok (.iload_n 1, 1) := by decide +kernel
theorem dX7_restore_1 : decode cX7_restore 1 = .ok (.invokestatic 187, 3) := by decide +kernel
theorem dX7_restore_4 : decode cX7_restore 4 = .ok (.aload_n 0, 1) := by decide +kernel
theorem dX7_restore_5 : decode cX7_restore 5 = .ok (.getfield 23, 3) := by decide +kernel
theorem dX7_restore_8 : decode cX7_restore 8 = .ok (.iload_n 1, 1) := by decide +kernel
theorem dX7_restore_9 : decode cX7_restore 9 = .ok (.invokevirtual 194, 3) := by decide +kernel
theorem dX7_restore_12 : decode cX7_restore 12 = .ok (.ifCond .ne 13, 3) := by decide +kernel
theorem dX7_restore_15 : decode cX7_restore 15 = .ok (.new 197, 3) := by decide +kernel
theorem dX7_restore_18 : decode cX7_restore 18 = .ok (.dup, 1) := by decide +kernel
theorem dX7_restore_19 : decode cX7_restore 19 = .ok (.ldc 199, 2) := by decide +kernel
theorem dX7_restore_21 : decode cX7_restore 21 = .ok (.invokespecial 201, 3) := by decide +kernel
theorem dX7_restore_24 : decode cX7_restore 24 = .ok (.athrow, 1) := by decide +kernel
theorem dX7_restore_25 : decode cX7_restore 25 = .ok (.aload_n 0, 1) := by decide +kernel
theorem dX7_restore_26 : decode cX7_restore 26 = .ok (.getfield 23, 3) := by decide +kernel
theorem dX7_restore_29 : decode cX7_restore 29 = .ok (.aload_n 0, 1) := by decide +kernel
theorem dX7_restore_30 : decode cX7_restore 30 = .ok (.getfield 16, 3) := by decide +kernel
theorem dX7_restore_33 : decode cX7_restore 33 = .ok (.invokevirtual 159, 3) := by decide +kernel
theorem dX7_restore_36 : decode cX7_restore 36 = .ok (.aload_n 0, 1) := by decide +kernel
theorem dX7_restore_37 : decode cX7_restore 37 = .ok (.getfield 23, 3) := by decide +kernel
theorem dX7_restore_40 : decode cX7_restore 40 = .ok (.iload_n 1, 1) := by decide +kernel
theorem dX7_restore_41 : decode cX7_restore 41 = .ok (.aload_n 0, 1) := by decide +kernel
theorem dX7_restore_42 : decode cX7_restore 42 = .ok (.getfield 16, 3) := by decide +kernel
theorem dX7_restore_45 : decode cX7_restore 45 = .ok (.invokevirtual 202, 3) := by decide +kernel
theorem dX7_restore_48 : decode cX7_restore 48 = .ok (.aload_n 0, 1) := by decide +kernel
theorem dX7_restore_49 : decode cX7_restore 49 = .ok (.getfield 16, 3) := by decide +kernel
theorem dX7_restore_52 : decode cX7_restore 52 = .ok (.getfield 133, 3) := by decide +kernel
theorem dX7_restore_55 : decode cX7_restore 55 = .ok (.ireturn, 1) := by decide +kernel
set_option maxRecDepth 20000 in
theorem ggX7_undo_X3_stepBack : GoodIn wsX7_undo wsX3_stepBack := goodIn_r _ [9, 10, 11, 12, 13, 14, 8, 15, 16, 17, 18, 19, 20, 21, 22, 23, 24, 25, 26, 27, 28, 29, 30, 31, 32, 33, 34, 35, 36, 37, 38, 39, 40, 41, 42, 43, 44, 45, 46, 47, 48, 49, 50, 51, 52, 53, 54, 55, 56, 57, 58, 59, 60, 61, 62, 63, 75, 76, 77, 78, 79, 80, 81, 82, 83, 84, 85, 86, 87, 88, 89, 90, 91, 92, 93, 94, 95, 96, 97, 98, 99, 100] (by decide +kernel) (by decide +kernel)
set_option maxRecDepth 20000 in
theorem gX7_undo_X3_stepBack : GoodIn wsX7_undo (wsV RX7 210 RX3 yX3_stepBack wsX3_stepBack) := goodIn_app (goodIn_of _ (by decide +kernel)) ggX7_undo_X3_stepBack
theorem dX7_undo_0 : decode cX7_undo 0 = .ok (.aload_n 0, 1) := by decide +kernel
theorem dX7_undo_1 : decode cX7_undo 1 = .ok (.getfield 23, 3) := by decide +kernel
theorem dX7_undo_4 : decode cX7_undo 4 = .ok (.getfield 205, 3) := by decide +kernel
theorem dX7_undo_7 : decode cX7_undo 7 = .ok (.ifCond .gt 13, 3) := by decide +kernel
theorem dX7_undo_10 : decode cX7_undo 10 = .ok (.new 69, 3) := by decide +kernel
theorem dX7_undo_13 : decode cX7_undo 13 = .ok (.dup, 1) := by decide +kernel
theorem dX7_undo_14 : decode cX7_undo 14 = .ok (.ldc 208, 2) := by decide +kernel
theorem dX7_undo_16 : decode cX7_undo 16 = .ok (.invokespecial 73, 3) := by decide +kernel
theorem dX7_undo_19 : decode cX7_undo 19 = .ok (.athrow, 1) := by decide +kernel
theorem dX7_undo_20 : decode cX7_undo 20 = .ok (.aload_n 0, 1) := by decide +kernel
theorem dX7_undo_21 : decode cX7_undo 21 = .ok (.getfield 23, 3) := by decide +kernel
theorem dX7_undo_24 : decode cX7_undo 24 = .ok (.aload_n 0, 1) := by decide +kernel
theorem dX7_undo_25 : decode cX7_undo 25 = .ok (.getfield 16, 3) := by decide +kernel
theorem dX7_undo_28 : decode cX7_undo 28 = .ok (.invokevirtual 210, 3) := by decide +kernel
theorem dX7_undo_31 : decode cX7_undo 31 = .ok (.aload_n 0, 1) := by decide +kernel
theorem dX7_undo_32 : decode cX7_undo 32 = .ok (.getfield 23, 3) := by decide +kernel
theorem dX7_undo_35 : decode cX7_undo 35 = .ok (.getfield 205, 3) := by decide +kernel
theorem dX7_undo_38 : decode cX7_undo 38 = .ok (.ireturn, 1) := by decide +kernel
theorem dX7_requireSlot_0 : decode cX7_requireSlot 0 = .ok (.iload_n 0, 1) := by decide +kernel
theorem dX7_requireSlot_1 : decode cX7_requireSlot 1 = .ok (.ifCond .lt 8, 3) := by decide +kernel
theorem dX7_requireSlot_4 : decode cX7_requireSlot 4 = .ok (.iload_n 0, 1) := by decide +kernel
theorem dX7_requireSlot_5 : decode cX7_requireSlot 5 = .ok (.iconst 2, 1) := by decide +kernel
theorem dX7_requireSlot_6 : decode cX7_requireSlot 6 = .ok (.if_icmp .lt 13, 3) := by decide +kernel
theorem dX7_requireSlot_9 : decode cX7_requireSlot 9 = .ok (.new 84, 3) := by decide +kernel
theorem dX7_requireSlot_12 : decode cX7_requireSlot 12 = .ok (.dup, 1) := by decide +kernel
theorem dX7_requireSlot_13 : decode cX7_requireSlot 13 = .ok (.ldc 213, 2) := by decide +kernel
theorem dX7_requireSlot_15 : decode cX7_requireSlot 15 = .ok (.invokespecial 88, 3) := by decide +kernel
theorem dX7_requireSlot_18 : decode cX7_requireSlot 18 = .ok (.athrow, 1) := by decide +kernel
theorem dX7_requireSlot_19 : decode cX7_requireSlot 19 = .ok (.return_, 1) := by decide +kernel
theorem dX7_alphabetSize_0 : decode cX7_alphabetSize 0 = .ok (.aload_n 0, 1) := by decide +kernel
theorem dX7_alphabetSize_1 : decode cX7_alphabetSize 1 = .ok (.getfield 16, 3) := by decide +kernel
theorem dX7_alphabetSize_4 : decode cX7_alphabetSize 4 = .ok (.getfield 136, 3) := by decide +kernel
theorem dX7_alphabetSize_7 : decode cX7_alphabetSize 7 = .ok (.getfield 215, 3) := by decide +kernel
theorem dX7_alphabetSize_10 : decode cX7_alphabetSize 10 = .ok (.ireturn, 1) := by decide +kernel
theorem dX7_greatestWidth_0 : decode cX7_greatestWidth 0 = .ok (.aload_n 0, 1) := by decide +kernel
theorem dX7_greatestWidth_1 : decode cX7_greatestWidth 1 = .ok (.getfield 16, 3) := by decide +kernel
theorem dX7_greatestWidth_4 : decode cX7_greatestWidth 4 = .ok (.getfield 136, 3) := by decide +kernel
theorem dX7_greatestWidth_7 : decode cX7_greatestWidth 7 = .ok (.getfield 218, 3) := by decide +kernel
theorem dX7_greatestWidth_10 : decode cX7_greatestWidth 10 = .ok (.ireturn, 1) := by decide +kernel
theorem dX7_policy_0 : decode cX7_policy 0 = .ok (.aload_n 0, 1) := by decide +kernel
theorem dX7_policy_1 : decode cX7_policy 1 = .ok (.getfield 16, 3) := by decide +kernel
theorem dX7_policy_4 : decode cX7_policy 4 = .ok (.getfield 183, 3) := by decide +kernel
theorem dX7_policy_7 : decode cX7_policy 7 = .ok (.ireturn, 1) := by decide +kernel
theorem dX7_limit_0 : decode cX7_limit 0 = .ok (.aload_n 0, 1) := by decide +kernel
theorem dX7_limit_1 : decode cX7_limit 1 = .ok (.getfield 16, 3) := by decide +kernel
theorem dX7_limit_4 : decode cX7_limit 4 = .ok (.getfield 186, 3) := by decide +kernel
theorem dX7_limit_7 : decode cX7_limit 7 = .ok (.ireturn, 1) := by decide +kernel
set_option maxRecDepth 20000 in
theorem ggX7_plainWidth_X1_widthOfSymbols : GoodIn wsX7_plainWidth wsX1_widthOfSymbols := goodIn_r _ [6, 7, 8, 9, 10, 36, 37, 38, 39, 40, 41, 42, 43] (by decide +kernel) (by decide +kernel)
set_option maxRecDepth 20000 in
theorem gX7_plainWidth_X1_widthOfSymbols : GoodIn wsX7_plainWidth (wsV RX7 221 RX1 yX1_widthOfSymbols wsX1_widthOfSymbols) := goodIn_app (goodIn_of _ (by decide +kernel)) ggX7_plainWidth_X1_widthOfSymbols
theorem dX7_plainWidth_0 : decode cX7_plainWidth 0 = .ok (.aload_n 0, 1) := by decide +kernel
theorem dX7_plainWidth_1 : decode cX7_plainWidth 1 = .ok (.getfield 16, 3) := by decide +kernel
theorem dX7_plainWidth_4 : decode cX7_plainWidth 4 = .ok (.getfield 136, 3) := by decide +kernel
theorem dX7_plainWidth_7 : decode cX7_plainWidth 7 = .ok (.invokevirtual 221, 3) := by decide +kernel
theorem dX7_plainWidth_10 : decode cX7_plainWidth 10 = .ok (.ireturn, 1) := by decide +kernel
theorem dX7_clearCode_0 : decode cX7_clearCode 0 = .ok (.aload_n 0, 1) := by decide +kernel
theorem dX7_clearCode_1 : decode cX7_clearCode 1 = .ok (.getfield 16, 3) := by decide +kernel
theorem dX7_clearCode_4 : decode cX7_clearCode 4 = .ok (.getfield 136, 3) := by decide +kernel
theorem dX7_clearCode_7 : decode cX7_clearCode 7 = .ok (.getfield 215, 3) := by decide +kernel
theorem dX7_clearCode_10 : decode cX7_clearCode 10 = .ok (.ireturn, 1) := by decide +kernel
theorem dX7_codeCount_0 : decode cX7_codeCount 0 = .ok (.aload_n 0, 1) := by decide +kernel
theorem dX7_codeCount_1 : decode cX7_codeCount 1 = .ok (.getfield 16, 3) := by decide +kernel
theorem dX7_codeCount_4 : decode cX7_codeCount 4 = .ok (.getfield 136, 3) := by decide +kernel
theorem dX7_codeCount_7 : decode cX7_codeCount 7 = .ok (.getfield 224, 3) := by decide +kernel
theorem dX7_codeCount_10 : decode cX7_codeCount 10 = .ok (.ireturn, 1) := by decide +kernel
set_option maxRecDepth 20000 in
theorem ggX7_capacity_X1_room : GoodIn wsX7_capacity wsX1_room := goodIn_r _ [6, 7, 33, 34, 35, 36, 37, 38, 39, 40] (by decide +kernel) (by decide +kernel)
set_option maxRecDepth 20000 in
theorem gX7_capacity_X1_room : GoodIn wsX7_capacity (wsV RX7 225 RX1 yX1_room wsX1_room) := goodIn_app (goodIn_of _ (by decide +kernel)) ggX7_capacity_X1_room
theorem dX7_capacity_0 : decode cX7_capacity 0 = .ok (.aload_n 0, 1) := by decide +kernel
theorem dX7_capacity_1 : decode cX7_capacity 1 = .ok (.getfield 16, 3) := by decide +kernel
theorem dX7_capacity_4 : decode cX7_capacity 4 = .ok (.getfield 136, 3) := by decide +kernel
theorem dX7_capacity_7 : decode cX7_capacity 7 = .ok (.invokevirtual 225, 3) := by decide +kernel
theorem dX7_capacity_10 : decode cX7_capacity 10 = .ok (.ireturn, 1) := by decide +kernel
set_option maxRecDepth 20000 in
theorem ggX7_isFull_X1_hasNoRoom : GoodIn wsX7_isFull wsX1_hasNoRoom := goodIn_r _ [6, 7, 8, 9, 10, 5, 11, 12, 38, 39, 40, 41, 42, 43, 44, 45] (by decide +kernel) (by decide +kernel)
set_option maxRecDepth 20000 in
theorem gX7_isFull_X1_hasNoRoom : GoodIn wsX7_isFull (wsV RX7 228 RX1 yX1_hasNoRoom wsX1_hasNoRoom) := goodIn_app (goodIn_of _ (by decide +kernel)) ggX7_isFull_X1_hasNoRoom
theorem dX7_isFull_0 : decode cX7_isFull 0 = .ok (.aload_n 0, 1) := by decide +kernel
theorem dX7_isFull_1 : decode cX7_isFull 1 = .ok (.getfield 16, 3) := by decide +kernel
theorem dX7_isFull_4 : decode cX7_isFull 4 = .ok (.getfield 136, 3) := by decide +kernel
theorem dX7_isFull_7 : decode cX7_isFull 7 = .ok (.invokevirtual 228, 3) := by decide +kernel
theorem dX7_isFull_10 : decode cX7_isFull 10 = .ok (.ireturn, 1) := by decide +kernel
set_option maxRecDepth 20000 in
theorem ggX7_codeWidth_X1_widthOfCodes : GoodIn wsX7_codeWidth wsX1_widthOfCodes := goodIn_r _ [6, 7, 8, 9, 10, 36, 37, 38, 39, 40, 41, 42, 43] (by decide +kernel) (by decide +kernel)
set_option maxRecDepth 20000 in
theorem gX7_codeWidth_X1_widthOfCodes : GoodIn wsX7_codeWidth (wsV RX7 232 RX1 yX1_widthOfCodes wsX1_widthOfCodes) := goodIn_app (goodIn_of _ (by decide +kernel)) ggX7_codeWidth_X1_widthOfCodes
theorem dX7_codeWidth_0 : decode cX7_codeWidth 0 = .ok (.aload_n 0, 1) := by decide +kernel
theorem dX7_codeWidth_1 : decode cX7_codeWidth 1 = .ok (.getfield 16, 3) := by decide +kernel
theorem dX7_codeWidth_4 : decode cX7_codeWidth 4 = .ok (.getfield 136, 3) := by decide +kernel
theorem dX7_codeWidth_7 : decode cX7_codeWidth 7 = .ok (.invokevirtual 232, 3) := by decide +kernel
theorem dX7_codeWidth_10 : decode cX7_codeWidth 10 = .ok (.ireturn, 1) := by decide +kernel
set_option maxRecDepth 20000 in
theorem ggX7_phraseLength_X7_requireCode : GoodIn wsX7_phraseLength wsX7_requireCode := goodIn_ca (goodIn_r _ [6, 1, 7, 8, 5, 9, 10, 11, 20, 21, 22, 23, 24, 25, 26, 27, 28, 29, 30, 31, 32, 33, 34, 35, 36, 37, 38, 39, 40, 41, 42, 43, 44, 45, 46, 47, 48, 49, 50, 51, 52] (by decide +kernel) (by decide +kernel)) (goodIn_sub (fun _ h => List.mem_cons_of_mem _ (List.mem_append_right _ h)) (by decide +kernel))
set_option maxRecDepth 20000 in
theorem gX7_phraseLength_X7_requireCode : GoodIn wsX7_phraseLength (wsV RX7 235 RX7 yX7_requireCode wsX7_requireCode) := goodIn_app (goodIn_of _ (by decide +kernel)) ggX7_phraseLength_X7_requireCode
set_option maxRecDepth 20000 in
theorem ggX7_phraseLength_X1_lengthOf : GoodIn wsX7_phraseLength wsX1_lengthOf := goodIn_r _ [16, 17, 18, 5, 19, 45, 46, 47, 48, 49, 50, 51, 52] (by decide +kernel) (by decide +kernel)
set_option maxRecDepth 20000 in
theorem gX7_phraseLength_X1_lengthOf : GoodIn wsX7_phraseLength (wsV RX7 238 RX1 yX1_lengthOf wsX1_lengthOf) := goodIn_app (goodIn_of _ (by decide +kernel)) ggX7_phraseLength_X1_lengthOf
theorem dX7_phraseLength_0 : decode cX7_phraseLength 0 = .ok (.aload_n 0, 1) := by decide +kernel
theorem dX7_phraseLength_1 : decode cX7_phraseLength 1 = .ok (.iload_n 1, 1) := by decide +kernel
theorem dX7_phraseLength_2 : decode cX7_phraseLength 2 = .ok (.invokevirtual 235, 3) := by decide +kernel
theorem dX7_phraseLength_5 : decode cX7_phraseLength 5 = .ok (.aload_n 0, 1) := by decide +kernel
theorem dX7_phraseLength_6 : decode cX7_phraseLength 6 = .ok (.getfield 16, 3) := by decide +kernel
theorem dX7_phraseLength_9 : decode cX7_phraseLength 9 = .ok (.getfield 136, 3) := by decide +kernel
theorem dX7_phraseLength_12 : decode cX7_phraseLength 12 = .ok (.iload_n 1, 1) := by decide +kernel
theorem dX7_phraseLength_13 : decode cX7_phraseLength 13 = .ok (.invokevirtual 238, 3) := by decide +kernel
theorem dX7_phraseLength_16 : decode cX7_phraseLength 16 = .ok (.ireturn, 1) := by decide +kernel
set_option maxRecDepth 20000 in
theorem ggX7_phraseSymbol_X7_requireCode : GoodIn wsX7_phraseSymbol wsX7_requireCode := goodIn_ca (goodIn_r _ [6, 1, 7, 8, 5, 9, 10, 11, 27, 28, 29, 30, 31, 32, 33, 34, 35, 36, 37, 38, 39, 40, 41, 42, 43, 44, 45, 46, 47, 48, 49, 50, 51, 52, 53, 54, 55, 56, 57, 58, 59] (by decide +kernel) (by decide +kernel)) (goodIn_sub (fun _ h => List.mem_cons_of_mem _ (List.mem_append_right _ h)) (by decide +kernel))
set_option maxRecDepth 20000 in
theorem gX7_phraseSymbol_X7_requireCode : GoodIn wsX7_phraseSymbol (wsV RX7 235 RX7 yX7_requireCode wsX7_requireCode) := goodIn_app (goodIn_of _ (by decide +kernel)) ggX7_phraseSymbol_X7_requireCode
set_option maxRecDepth 20000 in
theorem ggX7_phraseSymbol_X1_lengthOf : GoodIn wsX7_phraseSymbol wsX1_lengthOf := goodIn_r _ [16, 17, 18, 5, 19, 52, 53, 54, 55, 56, 57, 58, 59] (by decide +kernel) (by decide +kernel)
set_option maxRecDepth 20000 in
theorem gX7_phraseSymbol_X1_lengthOf : GoodIn wsX7_phraseSymbol (wsV RX7 238 RX1 yX1_lengthOf wsX1_lengthOf) := goodIn_app (goodIn_of _ (by decide +kernel)) ggX7_phraseSymbol_X1_lengthOf
set_option maxRecDepth 20000 in
theorem ggX7_phraseSymbol_X7_requireIndex : GoodIn wsX7_phraseSymbol wsX7_requireIndex := goodIn_ca (goodIn_r _ [9, 10, 11] (by decide +kernel) (by decide +kernel)) (goodIn_sub (fun _ h => List.mem_cons_of_mem _ (List.mem_append_right _ h)) (by decide +kernel))
set_option maxRecDepth 20000 in
theorem gX7_phraseSymbol_X7_requireIndex : GoodIn wsX7_phraseSymbol (va_wsS RX7 241 yX7_requireIndex wsX7_requireIndex) := goodIn_app (goodIn_of _ (by decide +kernel)) ggX7_phraseSymbol_X7_requireIndex
set_option maxRecDepth 20000 in
theorem ggX7_phraseSymbol_X1_symbolOf : GoodIn wsX7_phraseSymbol wsX1_symbolOf := goodIn_r _ [23, 24, 25, 26, 13, 14, 15, 16, 17, 18, 5, 19, 52, 53, 54, 55, 56, 57, 58, 59] (by decide +kernel) (by decide +kernel)
set_option maxRecDepth 20000 in
theorem gX7_phraseSymbol_X1_symbolOf : GoodIn wsX7_phraseSymbol (wsV RX7 245 RX1 yX1_symbolOf wsX1_symbolOf) := goodIn_app (goodIn_of _ (by decide +kernel)) ggX7_phraseSymbol_X1_symbolOf
theorem dX7_phraseSymbol_0 : decode cX7_phraseSymbol 0 = .ok (.aload_n 0, 1) := by decide +kernel
theorem dX7_phraseSymbol_1 : decode cX7_phraseSymbol 1 = .ok (.iload_n 1, 1) := by decide +kernel
theorem dX7_phraseSymbol_2 : decode cX7_phraseSymbol 2 = .ok (.invokevirtual 235, 3) := by decide +kernel
theorem dX7_phraseSymbol_5 : decode cX7_phraseSymbol 5 = .ok (.iload_n 2, 1) := by decide +kernel
theorem dX7_phraseSymbol_6 : decode cX7_phraseSymbol 6 = .ok (.aload_n 0, 1) := by decide +kernel
theorem dX7_phraseSymbol_7 : decode cX7_phraseSymbol 7 = .ok (.getfield 16, 3) := by decide +kernel
theorem dX7_phraseSymbol_10 : decode cX7_phraseSymbol 10 = .ok (.getfield 136, 3) := by decide +kernel
theorem dX7_phraseSymbol_13 : decode cX7_phraseSymbol 13 = .ok (.iload_n 1, 1) := by decide +kernel
theorem dX7_phraseSymbol_14 : decode cX7_phraseSymbol 14 = .ok (.invokevirtual 238, 3) := by decide +kernel
theorem dX7_phraseSymbol_17 : decode cX7_phraseSymbol 17 = .ok (.invokestatic 241, 3) := by decide +kernel
theorem dX7_phraseSymbol_20 : decode cX7_phraseSymbol 20 = .ok (.aload_n 0, 1) := by decide +kernel
theorem dX7_phraseSymbol_21 : decode cX7_phraseSymbol 21 = .ok (.getfield 16, 3) := by decide +kernel
theorem dX7_phraseSymbol_24 : decode cX7_phraseSymbol 24 = .ok (.getfield 136, 3) := by decide +kernel
theorem dX7_phraseSymbol_27 : decode cX7_phraseSymbol 27 = .ok (.iload_n 1, 1) := by decide +kernel
theorem dX7_phraseSymbol_28 : decode cX7_phraseSymbol 28 = .ok (.iload_n 2, 1) := by decide +kernel
theorem dX7_phraseSymbol_29 : decode cX7_phraseSymbol 29 = .ok (.invokevirtual 245, 3) := by decide +kernel
theorem dX7_phraseSymbol_32 : decode cX7_phraseSymbol 32 = .ok (.ireturn, 1) := by decide +kernel
set_option maxRecDepth 20000 in
theorem ggX7_prefixOf_X7_requireCode : GoodIn wsX7_prefixOf wsX7_requireCode := goodIn_ca (goodIn_r _ [8, 3, 9, 10, 7, 11, 12, 13, 23, 24, 25, 26, 27, 28, 29, 30, 31, 32, 33, 34, 35, 36, 37, 38, 39, 40, 41, 42, 43, 44, 45, 46, 47, 48, 49, 50, 51, 52, 53, 54, 55] (by decide +kernel) (by decide +kernel)) (goodIn_sub (fun _ h => List.mem_cons_of_mem _ (List.mem_append_right _ h)) (by decide +kernel))
set_option maxRecDepth 20000 in
theorem gX7_prefixOf_X7_requireCode : GoodIn wsX7_prefixOf (wsV RX7 235 RX7 yX7_requireCode wsX7_requireCode) := goodIn_app (goodIn_of _ (by decide +kernel)) ggX7_prefixOf_X7_requireCode
set_option maxRecDepth 20000 in
theorem ggX7_prefixOf_X1_lengthOf : GoodIn wsX7_prefixOf wsX1_lengthOf := goodIn_r _ [18, 19, 20, 7, 21, 48, 49, 50, 51, 52, 53, 54, 55] (by decide +kernel) (by decide +kernel)
set_option maxRecDepth 20000 in
theorem gX7_prefixOf_X1_lengthOf : GoodIn wsX7_prefixOf (wsV RX7 238 RX1 yX1_lengthOf wsX1_lengthOf) := goodIn_app (goodIn_of _ (by decide +kernel)) ggX7_prefixOf_X1_lengthOf
set_option maxRecDepth 20000 in
theorem ggX7_prefixOf_X7_at : GoodIn wsX7_prefixOf wsX7_at := goodIn_r _ [21] (by decide +kernel) (by decide +kernel)
set_option maxRecDepth 20000 in
theorem gX7_prefixOf_X7_at : GoodIn wsX7_prefixOf (va_wsS RX7 119 yX7_at wsX7_at) := goodIn_app (goodIn_of _ (by decide +kernel)) ggX7_prefixOf_X7_at
theorem dX7_prefixOf_0 : decode cX7_prefixOf 0 = .ok (.aload_n 0, 1) := by decide +kernel
theorem dX7_prefixOf_1 : decode cX7_prefixOf 1 = .ok (.iload_n 1, 1) := by decide +kernel
theorem dX7_prefixOf_2 : decode cX7_prefixOf 2 = .ok (.invokevirtual 235, 3) := by decide +kernel
theorem dX7_prefixOf_5 : decode cX7_prefixOf 5 = .ok (.aload_n 0, 1) := by decide +kernel
theorem dX7_prefixOf_6 : decode cX7_prefixOf 6 = .ok (.getfield 16, 3) := by decide +kernel
theorem dX7_prefixOf_9 : decode cX7_prefixOf 9 = .ok (.getfield 136, 3) := by decide +kernel
theorem dX7_prefixOf_12 : decode cX7_prefixOf 12 = .ok (.iload_n 1, 1) := by decide +kernel
theorem dX7_prefixOf_13 : decode cX7_prefixOf 13 = .ok (.invokevirtual 238, 3) := by decide +kernel
theorem dX7_prefixOf_16 : decode cX7_prefixOf 16 = .ok (.iconst 2, 1) := by decide +kernel
theorem dX7_prefixOf_17 : decode cX7_prefixOf 17 = .ok (.if_icmp .ge 13, 3) := by decide +kernel
theorem dX7_prefixOf_20 : decode cX7_prefixOf 20 = .ok (.new 197, 3) := by decide +kernel
theorem dX7_prefixOf_23 : decode cX7_prefixOf 23 = .ok (.dup, 1) := by decide +kernel
theorem dX7_prefixOf_24 : decode cX7_prefixOf 24 = .ok (.ldc 249, 2) := by decide +kernel
theorem dX7_prefixOf_26 : decode cX7_prefixOf 26 = .ok (.invokespecial 201, 3) := by decide +kernel
theorem dX7_prefixOf_29 : decode cX7_prefixOf 29 = .ok (.athrow, 1) := by decide +kernel
theorem dX7_prefixOf_30 : decode cX7_prefixOf 30 = .ok (.aload_n 0, 1) := by decide +kernel
theorem dX7_prefixOf_31 : decode cX7_prefixOf 31 = .ok (.getfield 16, 3) := by decide +kernel
theorem dX7_prefixOf_34 : decode cX7_prefixOf 34 = .ok (.getfield 136, 3) := by decide +kernel
theorem dX7_prefixOf_37 : decode cX7_prefixOf 37 = .ok (.getfield 251, 3) := by decide +kernel
theorem dX7_prefixOf_40 : decode cX7_prefixOf 40 = .ok (.iload_n 1, 1) := by decide +kernel
theorem dX7_prefixOf_41 : decode cX7_prefixOf 41 = .ok (.invokestatic 119, 3) := by decide +kernel
theorem dX7_prefixOf_44 : decode cX7_prefixOf 44 = .ok (.ireturn, 1) := by decide +kernel
set_option maxRecDepth 20000 in
theorem ggX7_extensionOf_X7_requireCode : GoodIn wsX7_extensionOf wsX7_requireCode := goodIn_ca (goodIn_r _ [10, 5, 11, 12, 9, 13, 14, 15, 35, 36, 37, 38, 39, 40, 41, 42, 43, 44, 45, 46, 47, 48, 49, 50, 51, 52, 53, 54, 55, 56, 57, 58, 59, 60, 61, 62, 63, 64, 65, 66, 67] (by decide +kernel) (by decide +kernel)) (goodIn_sub (fun _ h => List.mem_cons_of_mem _ (List.mem_append_right _ h)) (by decide +kernel))
set_option maxRecDepth 20000 in
theorem gX7_extensionOf_X7_requireCode : GoodIn wsX7_extensionOf (wsV RX7 235 RX7 yX7_requireCode wsX7_requireCode) := goodIn_app (goodIn_of _ (by decide +kernel)) ggX7_extensionOf_X7_requireCode
set_option maxRecDepth 20000 in
theorem ggX7_extensionOf_X7_requireSymbol : GoodIn wsX7_extensionOf wsX7_requireSymbol := goodIn_ca (goodIn_r _ [19, 1, 2, 20, 21, 22, 9, 23, 5, 35, 36, 37, 38, 39, 40, 41, 42, 43, 44, 45, 46, 47, 48, 49, 50, 51, 52, 53, 54, 55, 56, 57, 58, 59, 60, 61, 62, 63, 64, 65, 66, 67] (by decide +kernel) (by decide +kernel)) (goodIn_sub (fun _ h => List.mem_cons_of_mem _ (List.mem_append_left _ (List.mem_append_left _ (List.mem_append_right _ h)))) (by decide +kernel))
set_option maxRecDepth 20000 in
theorem gX7_extensionOf_X7_requireSymbol : GoodIn wsX7_extensionOf (wsV RX7 154 RX7 yX7_requireSymbol wsX7_requireSymbol) := goodIn_app (goodIn_of _ (by decide +kernel)) ggX7_extensionOf_X7_requireSymbol
set_option maxRecDepth 20000 in
theorem ggX7_extensionOf_X1_longerBy : GoodIn wsX7_extensionOf wsX1_longerBy := goodIn_r _ [28, 29, 30, 31, 32, 33, 9, 34, 60, 61, 62, 63, 64, 65, 66, 67] (by decide +kernel) (by decide +kernel)
set_option maxRecDepth 20000 in
theorem gX7_extensionOf_X1_longerBy : GoodIn wsX7_extensionOf (wsV RX7 256 RX1 yX1_longerBy wsX1_longerBy) := goodIn_app (goodIn_of _ (by decide +kernel)) ggX7_extensionOf_X1_longerBy
theorem dX7_extensionOf_0 : decode cX7_extensionOf 0 = .ok (.aload_n 0, 1) := by decide +kernel
theorem dX7_extensionOf_1 : decode cX7_extensionOf 1 = .ok (.iload_n 1, 1) := by decide +kernel
theorem dX7_extensionOf_2 : decode cX7_extensionOf 2 = .ok (.invokevirtual 235, 3) := by decide +kernel
theorem dX7_extensionOf_5 : decode cX7_extensionOf 5 = .ok (.aload_n 0, 1) := by decide +kernel
theorem dX7_extensionOf_6 : decode cX7_extensionOf 6 = .ok (.iload_n 2, 1) := by decide +kernel
theorem dX7_extensionOf_7 : decode cX7_extensionOf 7 = .ok (.invokevirtual 154, 3) := by decide +kernel
theorem dX7_extensionOf_10 : decode cX7_extensionOf 10 = .ok (.iload_n 1, 1) := by decide +kernel
theorem dX7_extensionOf_11 : decode cX7_extensionOf 11 = .ok (.aload_n 0, 1) := by decide +kernel
theorem dX7_extensionOf_12 : decode cX7_extensionOf 12 = .ok (.getfield 16, 3) := by decide +kernel
theorem dX7_extensionOf_15 : decode cX7_extensionOf 15 = .ok (.getfield 136, 3) := by decide +kernel
theorem dX7_extensionOf_18 : decode cX7_extensionOf 18 = .ok (.getfield 215, 3) := by decide +kernel
theorem dX7_extensionOf_21 : decode cX7_extensionOf 21 = .ok (.if_icmp .ne 13, 3) := by decide +kernel
theorem dX7_extensionOf_24 : decode cX7_extensionOf 24 = .ok (.new 84, 3) := by decide +kernel
theorem dX7_extensionOf_27 : decode cX7_extensionOf 27 = .ok (.dup, 1) := by decide +kernel
theorem dX7_extensionOf_28 : decode cX7_extensionOf 28 = .ok (.ldc 254, 2) := by decide +kernel
theorem dX7_extensionOf_30 : decode cX7_extensionOf 30 = .ok (.invokespecial 88, 3) := by decide +kernel
theorem dX7_extensionOf_33 : decode cX7_extensionOf 33 = .ok (.athrow, 1) := by decide +kernel
theorem dX7_extensionOf_34 : decode cX7_extensionOf 34 = .ok (.aload_n 0, 1) := by decide +kernel
theorem dX7_extensionOf_35 : decode cX7_extensionOf 35 = .ok (.getfield 16, 3) := by decide +kernel
theorem dX7_extensionOf_38 : decode cX7_extensionOf 38 = .ok (.getfield 136, 3) := by decide +kernel
theorem dX7_extensionOf_41 : decode cX7_extensionOf 41 = .ok (.iload_n 1, 1) := by decide +kernel
theorem dX7_extensionOf_42 : decode cX7_extensionOf 42 = .ok (.iload_n 2, 1) := by decide +kernel
theorem dX7_extensionOf_43 : decode cX7_extensionOf 43 = .ok (.invokevirtual 256, 3) := by decide +kernel
theorem dX7_extensionOf_46 : decode cX7_extensionOf 46 = .ok (.istore_n 3, 1) := by decide +kernel
theorem dX7_extensionOf_47 : decode cX7_extensionOf 47 = .ok (.iload_n 3, 1) := by decide +kernel
theorem dX7_extensionOf_48 : decode cX7_extensionOf 48 = .ok (.iconst (-1), 1) := by decide +kernel
theorem dX7_extensionOf_49 : decode cX7_extensionOf 49 = .ok (.if_icmp .ne 14, 3) := by decide +kernel
theorem dX7_extensionOf_52 : decode cX7_extensionOf 52 = .ok (.new 197, 3) := by decide +kernel
theorem dX7_extensionOf_55 : decode cX7_extensionOf 55 = .ok (.dup, 1) := by decide +kernel
theorem dX7_extensionOf_56 : decode cX7_extensionOf 56 = .ok (.ldc_w 259, 3) := by decide +kernel
theorem dX7_extensionOf_59 : decode cX7_extensionOf 59 = .ok (.invokespecial 201, 3) := by decide +kernel
theorem dX7_extensionOf_62 : decode cX7_extensionOf 62 = .ok (.athrow, 1) := by decide +kernel
theorem dX7_extensionOf_63 : decode cX7_extensionOf 63 = .ok (.iload_n 3, 1) := by decide +kernel
theorem dX7_extensionOf_64 : decode cX7_extensionOf 64 = .ok (.ireturn, 1) := by decide +kernel
set_option maxRecDepth 20000 in
theorem ggX7_extensionCount_X7_requireCode : GoodIn wsX7_extensionCount wsX7_requireCode := goodIn_ca (goodIn_r _ [6, 1, 7, 8, 5, 9, 10, 11, 22, 23, 24, 25, 26, 27, 28, 29, 30, 31, 32, 33, 34, 35, 36, 37, 38, 39, 40, 41, 42, 43, 44, 45, 46, 47, 48, 49, 50, 51, 52, 53, 54] (by decide +kernel) (by decide +kernel)) (goodIn_sub (fun _ h => List.mem_cons_of_mem _ (List.mem_append_right _ h)) (by decide +kernel))
set_option maxRecDepth 20000 in
theorem gX7_extensionCount_X7_requireCode : GoodIn wsX7_extensionCount (wsV RX7 235 RX7 yX7_requireCode wsX7_requireCode) := goodIn_app (goodIn_of _ (by decide +kernel)) ggX7_extensionCount_X7_requireCode
set_option maxRecDepth 20000 in
theorem ggX7_extensionCount_X1_countLonger : GoodIn wsX7_extensionCount wsX1_countLonger := goodIn_r _ [16, 17, 18, 19, 20, 5, 21, 47, 48, 49, 50, 51, 52, 53, 54] (by decide +kernel) (by decide +kernel)
set_option maxRecDepth 20000 in
theorem gX7_extensionCount_X1_countLonger : GoodIn wsX7_extensionCount (wsV RX7 261 RX1 yX1_countLonger wsX1_countLonger) := goodIn_app (goodIn_of _ (by decide +kernel)) ggX7_extensionCount_X1_countLonger
theorem dX7_extensionCount_0 : decode cX7_extensionCount 0 = .ok (.aload_n 0, 1) := by decide +kernel
theorem dX7_extensionCount_1 : decode cX7_extensionCount 1 = .ok (.iload_n 1, 1) := by decide +kernel
theorem dX7_extensionCount_2 : decode cX7_extensionCount 2 = .ok (.invokevirtual 235, 3) := by decide +kernel
theorem dX7_extensionCount_5 : decode cX7_extensionCount 5 = .ok (.aload_n 0, 1) := by decide +kernel
theorem dX7_extensionCount_6 : decode cX7_extensionCount 6 = .ok (.getfield 16, 3) := by decide +kernel
theorem dX7_extensionCount_9 : decode cX7_extensionCount 9 = .ok (.getfield 136, 3) := by decide +kernel
theorem dX7_extensionCount_12 : decode cX7_extensionCount 12 = .ok (.iload_n 1, 1) := by decide +kernel
theorem dX7_extensionCount_13 : decode cX7_extensionCount 13 = .ok (.invokevirtual 261, 3) := by decide +kernel
theorem dX7_extensionCount_16 : decode cX7_extensionCount 16 = .ok (.ireturn, 1) := by decide +kernel
set_option maxRecDepth 20000 in
theorem ggX7_longestPhrase_X1_firstLongest : GoodIn wsX7_longestPhrase wsX1_firstLongest := goodIn_r _ [6, 7, 8, 9, 10, 5, 11, 12, 13, 14, 15, 41, 42, 43, 44, 45, 46, 47, 48] (by decide +kernel) (by decide +kernel)
set_option maxRecDepth 20000 in
theorem gX7_longestPhrase_X1_firstLongest : GoodIn wsX7_longestPhrase (wsV RX7 264 RX1 yX1_firstLongest wsX1_firstLongest) := goodIn_app (goodIn_of _ (by decide +kernel)) ggX7_longestPhrase_X1_firstLongest
theorem dX7_longestPhrase_0 : decode cX7_longestPhrase 0 = .ok (.aload_n 0, 1) := by decide +kernel
theorem dX7_longestPhrase_1 : decode cX7_longestPhrase 1 = .ok (.getfield 16, 3) := by decide +kernel
theorem dX7_longestPhrase_4 : decode cX7_longestPhrase 4 = .ok (.getfield 136, 3) := by decide +kernel
theorem dX7_longestPhrase_7 : decode cX7_longestPhrase 7 = .ok (.invokevirtual 264, 3) := by decide +kernel
theorem dX7_longestPhrase_10 : decode cX7_longestPhrase 10 = .ok (.ireturn, 1) := by decide +kernel
set_option maxRecDepth 20000 in
theorem ggX7_usesOf_X7_requireCode : GoodIn wsX7_usesOf wsX7_requireCode := goodIn_ca (goodIn_r _ [6, 1, 7, 8, 5, 9, 10, 11, 21, 22, 23, 24, 25, 26, 27, 28, 29, 30, 31, 32, 33, 34, 35, 36, 37, 38, 39, 40, 41, 42, 43, 44, 45, 46, 47, 48, 49, 50, 51, 52, 53] (by decide +kernel) (by decide +kernel)) (goodIn_sub (fun _ h => List.mem_cons_of_mem _ (List.mem_append_right _ h)) (by decide +kernel))
set_option maxRecDepth 20000 in
theorem gX7_usesOf_X7_requireCode : GoodIn wsX7_usesOf (wsV RX7 235 RX7 yX7_requireCode wsX7_requireCode) := goodIn_app (goodIn_of _ (by decide +kernel)) ggX7_usesOf_X7_requireCode
set_option maxRecDepth 20000 in
theorem ggX7_usesOf_X2_countWritten : GoodIn wsX7_usesOf wsX2_countWritten := goodIn_r _ [16, 17, 18, 19, 5, 20, 32, 33, 34, 35, 36, 37, 38, 39, 40, 41, 42, 43, 44, 45] (by decide +kernel) (by decide +kernel)
set_option maxRecDepth 20000 in
theorem gX7_usesOf_X2_countWritten : GoodIn wsX7_usesOf (wsV RX7 267 RX2 yX2_countWritten wsX2_countWritten) := goodIn_app (goodIn_of _ (by decide +kernel)) ggX7_usesOf_X2_countWritten
theorem dX7_usesOf_0 : decode cX7_usesOf 0 = .ok (.aload_n 0, 1) := by decide +kernel
theorem dX7_usesOf_1 : decode cX7_usesOf 1 = .ok (.iload_n 1, 1) := by decide +kernel
theorem dX7_usesOf_2 : decode cX7_usesOf 2 = .ok (.invokevirtual 235, 3) := by decide +kernel
theorem dX7_usesOf_5 : decode cX7_usesOf 5 = .ok (.aload_n 0, 1) := by decide +kernel
theorem dX7_usesOf_6 : decode cX7_usesOf 6 = .ok (.getfield 16, 3) := by decide +kernel
theorem dX7_usesOf_9 : decode cX7_usesOf 9 = .ok (.iload_n 1, 1) := by decide +kernel
theorem dX7_usesOf_10 : decode cX7_usesOf 10 = .ok (.invokevirtual 267, 3) := by decide +kernel
theorem dX7_usesOf_13 : decode cX7_usesOf 13 = .ok (.ireturn, 1) := by decide +kernel
set_option maxRecDepth 20000 in
theorem ggX7_findTape_X7_codeOfTape : GoodIn wsX7_findTape wsX7_codeOfTape := goodIn_r _ [7, 8, 9, 10, 11, 12, 6, 13, 14, 15, 16, 17, 18, 19, 20, 21, 22, 23, 24, 25, 26, 27, 28, 29, 30, 31, 32, 33, 34, 35, 36, 37, 38, 39, 40, 41, 42, 43, 44, 45, 46, 47, 48, 49, 50, 51, 52, 53, 54, 55, 56, 57, 58, 59] (by decide +kernel) (by decide +kernel)
set_option maxRecDepth 20000 in
theorem gX7_findTape_X7_codeOfTape : GoodIn wsX7_findTape (wsV RX7 270 RX7 yX7_codeOfTape wsX7_codeOfTape) := goodIn_app (goodIn_of _ (by decide +kernel)) ggX7_findTape_X7_codeOfTape
theorem dX7_findTape_0 : decode cX7_findTape 0 = .ok (.aload_n 0, 1) := by decide +kernel
theorem dX7_findTape_1 : decode cX7_findTape 1 = .ok (.invokevirtual 270, 3) := by decide +kernel
theorem dX7_findTape_4 : decode cX7_findTape 4 = .ok (.istore_n 1, 1) := by decide +kernel
theorem dX7_findTape_5 : decode cX7_findTape 5 = .ok (.iload_n 1, 1) := by decide +kernel
theorem dX7_findTape_6 : decode cX7_findTape 6 = .ok (.iconst (-1), 1) := by decide +kernel
theorem dX7_findTape_7 : decode cX7_findTape 7 = .ok (.if_icmp .ne 14, 3) := by decide +kernel
theorem dX7_findTape_10 : decode cX7_findTape 10 = .ok (.new 197, 3) := by decide +kernel
theorem dX7_findTape_13 : decode cX7_findTape 13 = .ok (.dup, 1) := by decide +kernel
theorem dX7_findTape_14 : decode cX7_findTape 14 = .ok (.ldc_w 259, 3) := by decide +kernel
theorem dX7_findTape_17 : decode cX7_findTape 17 = .ok (.invokespecial 201, 3) := by decide +kernel
theorem dX7_findTape_20 : decode cX7_findTape 20 = .ok (.athrow, 1) := by decide +kernel
theorem dX7_findTape_21 : decode cX7_findTape 21 = .ok (.iload_n 1, 1) := by decide +kernel
theorem dX7_findTape_22 : decode cX7_findTape 22 = .ok (.ireturn, 1) := by decide +kernel
set_option maxRecDepth 20000 in
theorem ggX7_codeOfTape_X7_at : GoodIn wsX7_codeOfTape wsX7_at := goodIn_r _ [7] (by decide +kernel) (by decide +kernel)
set_option maxRecDepth 20000 in
theorem gX7_codeOfTape_X7_at : GoodIn wsX7_codeOfTape (va_wsS RX7 119 yX7_at wsX7_at) := goodIn_app (goodIn_of _ (by decide +kernel)) ggX7_codeOfTape_X7_at
set_option maxRecDepth 20000 in
theorem ggX7_codeOfTape_X7_isSymbol : GoodIn wsX7_codeOfTape wsX7_isSymbol := goodIn_r _ [11, 3, 21, 22, 23, 24, 25, 26, 27, 28, 29, 30, 31, 32, 33, 34, 35, 36, 37, 38, 39, 40, 41, 42, 43, 44, 45, 46, 47, 48, 49, 50, 51, 52, 53] (by decide +kernel) (by decide +kernel)
set_option maxRecDepth 20000 in
theorem gX7_codeOfTape_X7_isSymbol : GoodIn wsX7_codeOfTape (wsV RX7 163 RX7 yX7_isSymbol wsX7_isSymbol) := goodIn_app (goodIn_of _ (by decide +kernel)) ggX7_codeOfTape_X7_isSymbol
set_option maxRecDepth 20000 in
theorem ggX7_codeOfTape_X1_longerBy : GoodIn wsX7_codeOfTape wsX1_longerBy := goodIn_r _ [16, 17, 18, 19, 20, 5, 6, 7, 46, 47, 48, 49, 50, 51, 52, 53] (by decide +kernel) (by decide +kernel)
set_option maxRecDepth 20000 in
theorem gX7_codeOfTape_X1_longerBy : GoodIn wsX7_codeOfTape (wsV RX7 256 RX1 yX1_longerBy wsX1_longerBy) := goodIn_app (goodIn_of _ (by decide +kernel)) ggX7_codeOfTape_X1_longerBy
theorem dX7_codeOfTape_0 : decode cX7_codeOfTape 0 = .ok (.iconst (-1), 1) := by decide +kernel
theorem dX7_codeOfTape_1 : decode cX7_codeOfTape 1 = .ok (.istore_n 1, 1) := by decide +kernel
theorem dX7_codeOfTape_2 : decode cX7_codeOfTape 2 = .ok (.iconst 0, 1) := by decide +kernel
theorem dX7_codeOfTape_3 : decode cX7_codeOfTape 3 = .ok (.istore_n 2, 1) := by decide +kernel
theorem dX7_codeOfTape_4 : decode cX7_codeOfTape 4 = .ok (.iload_n 2, 1) := by decide +kernel
theorem dX7_codeOfTape_5 : decode cX7_codeOfTape 5 = .ok (.aload_n 0, 1) := by decide +kernel
theorem dX7_codeOfTape_6 : decode cX7_codeOfTape 6 = .ok (.getfield 66, 3) := by decide +kernel
theorem dX7_codeOfTape_9 : decode cX7_codeOfTape 9 = .ok (.if_icmp .ge 59, 3) := by decide +kernel
theorem dX7_codeOfTape_12 : decode cX7_codeOfTape 12 = .ok (.aload_n 0, 1) := by decide +kernel
theorem dX7_codeOfTape_13 : decode cX7_codeOfTape 13 = .ok (.getfield 9, 3) := by decide +kernel
theorem dX7_codeOfTape_16 : decode cX7_codeOfTape 16 = .ok (.iload_n 2, 1) := by decide +kernel
theorem dX7_codeOfTape_17 : decode cX7_codeOfTape 17 = .ok (.invokestatic 119, 3) := by decide +kernel
theorem dX7_codeOfTape_20 : decode cX7_codeOfTape 20 = .ok (.bipush 97, 2) := by decide +kernel
theorem dX7_codeOfTape_22 : decode cX7_codeOfTape 22 = .ok (.isub, 1) := by decide +kernel
theorem dX7_codeOfTape_23 : decode cX7_codeOfTape 23 = .ok (.istore_n 3, 1) := by decide +kernel
theorem dX7_codeOfTape_24 : decode cX7_codeOfTape 24 = .ok (.aload_n 0, 1) := by decide +kernel
theorem dX7_codeOfTape_25 : decode cX7_codeOfTape 25 = .ok (.iload_n 3, 1) := by decide +kernel
theorem dX7_codeOfTape_26 : decode cX7_codeOfTape 26 = .ok (.invokevirtual 163, 3) := by decide +kernel
theorem dX7_codeOfTape_29 : decode cX7_codeOfTape 29 = .ok (.ifCond .ne 5, 3) := by decide +kernel
theorem dX7_codeOfTape_32 : decode cX7_codeOfTape 32 = .ok (.iconst (-1), 1) := by decide +kernel
theorem dX7_codeOfTape_33 : decode cX7_codeOfTape 33 = .ok (.ireturn, 1) := by decide +kernel
theorem dX7_codeOfTape_34 : decode cX7_codeOfTape 34 = .ok (.iload_n 2, 1) := by decide +kernel
theorem dX7_codeOfTape_35 : decode cX7_codeOfTape 35 = .ok (.ifCond .ne 7, 3) := by decide +kernel
theorem dX7_codeOfTape_38 : decode cX7_codeOfTape 38 = .ok (.iload_n 3, 1) := by decide +kernel
theorem dX7_codeOfTape_39 : decode cX7_codeOfTape 39 = .ok (.goto 15, 3) := by decide +kernel
theorem dX7_codeOfTape_42 : decode cX7_codeOfTape 42 = .ok (.aload_n 0, 1) := by decide +kernel
theorem dX7_codeOfTape_43 : decode cX7_codeOfTape 43 = .ok (.getfield 16, 3) := by decide +kernel
theorem dX7_codeOfTape_46 : decode cX7_codeOfTape 46 = .ok (.getfield 136, 3) := by decide +kernel
theorem dX7_codeOfTape_49 : decode cX7_codeOfTape 49 = .ok (.iload_n 1, 1) := by decide +kernel
theorem dX7_codeOfTape_50 : decode cX7_codeOfTape 50 = .ok (.iload_n 3, 1) := by decide +kernel
theorem dX7_codeOfTape_51 : decode cX7_codeOfTape 51 = .ok (.invokevirtual 256, 3) := by decide +kernel
theorem dX7_codeOfTape_54 : decode cX7_codeOfTape 54 = .ok (.istore_n 1, 1) := by decide +kernel
theorem dX7_codeOfTape_55 : decode cX7_codeOfTape 55 = .ok (.iload_n 1, 1) := by decide +kernel
theorem dX7_codeOfTape_56 : decode cX7_codeOfTape 56 = .ok (.iconst (-1), 1) := by decide +kernel
theorem dX7_codeOfTape_57 : decode cX7_codeOfTape 57 = .ok (.if_icmp .ne 5, 3) := by decide +kernel
theorem dX7_codeOfTape_60 : decode cX7_codeOfTape 60 = .ok (.iconst (-1), 1) := by decide +kernel
theorem dX7_codeOfTape_61 : decode cX7_codeOfTape 61 = .ok (.ireturn, 1) := by decide +kernel
theorem dX7_codeOfTape_62 : decode cX7_codeOfTape 62 = .ok (.iinc 2 1, 3) := by decide +kernel
theorem dX7_codeOfTape_65 : decode cX7_codeOfTape 65 = .ok (.goto (-61), 3) := by decide +kernel
theorem dX7_codeOfTape_68 : decode cX7_codeOfTape 68 = .ok (.iload_n 1, 1) := by decide +kernel
theorem dX7_codeOfTape_69 : decode cX7_codeOfTape 69 = .ok (.ireturn, 1) := by decide +kernel
set_option maxRecDepth 20000 in
theorem ggX7_requireCode_X7_requireIndex : GoodIn wsX7_requireCode wsX7_requireIndex := goodIn_ca (goodIn_r _ [5, 6, 7] (by decide +kernel) (by decide +kernel)) (goodIn_sub (fun _ h => List.mem_cons_of_mem _ (List.mem_append_right _ h)) (by decide +kernel))
set_option maxRecDepth 20000 in
theorem gX7_requireCode_X7_requireIndex : GoodIn wsX7_requireCode (va_wsS RX7 241 yX7_requireIndex wsX7_requireIndex) := goodIn_app (goodIn_of _ (by decide +kernel)) ggX7_requireCode_X7_requireIndex
theorem dX7_requireCode_0 : decode cX7_requireCode 0 = .ok (.iload_n 1, 1) := by decide +kernel
theorem dX7_requireCode_1 : decode cX7_requireCode 1 = .ok (.aload_n 0, 1) := by decide +kernel
theorem dX7_requireCode_2 : decode cX7_requireCode 2 = .ok (.getfield 16, 3) := by decide +kernel
theorem dX7_requireCode_5 : decode cX7_requireCode 5 = .ok (.getfield 136, 3) := by decide +kernel
theorem dX7_requireCode_8 : decode cX7_requireCode 8 = .ok (.getfield 224, 3) := by decide +kernel
theorem dX7_requireCode_11 : decode cX7_requireCode 11 = .ok (.invokestatic 241, 3) := by decide +kernel
theorem dX7_requireCode_14 : decode cX7_requireCode 14 = .ok (.return_, 1) := by decide +kernel
set_option maxRecDepth 20000 in
theorem ggX7_requireSymbol_X7_isSymbol : GoodIn wsX7_requireSymbol wsX7_isSymbol := goodIn_r _ [7, 8, 9, 10, 11, 12, 13, 14, 15, 16, 17, 18, 19, 20, 21, 22, 23, 24, 25, 26, 27, 28, 29, 30, 31, 32, 33, 34, 35, 36, 37, 38, 39, 40, 41] (by decide +kernel) (by decide +kernel)
set_option maxRecDepth 20000 in
theorem gX7_requireSymbol_X7_isSymbol : GoodIn wsX7_requireSymbol (wsV RX7 163 RX7 yX7_isSymbol wsX7_isSymbol) := goodIn_app (goodIn_of _ (by decide +kernel)) ggX7_requireSymbol_X7_isSymbol
theorem dX7_requireSymbol_0 : decode cX7_requireSymbol 0 = .ok (.aload_n 0, 1) := by decide +kernel
theorem dX7_requireSymbol_1 : decode cX7_requireSymbol 1 = .ok (.iload_n 1, 1) := by decide +kernel
theorem dX7_requireSymbol_2 : decode cX7_requireSymbol 2 = .ok (.invokevirtual 163, 3) := by decide +kernel
theorem dX7_requireSymbol_5 : decode cX7_requireSymbol 5 = .ok (.ifCond .ne 14, 3) := by decide +kernel
theorem dX7_requireSymbol_8 : decode cX7_requireSymbol 8 = .ok (.new 84, 3) := by decide +kernel
theorem dX7_requireSymbol_11 : decode cX7_requireSymbol 11 = .ok (.dup, 1) := by decide +kernel
theorem dX7_requireSymbol_12 : decode cX7_requireSymbol 12 = .ok (.ldc_w 273, 3) := by decide +kernel
theorem dX7_requireSymbol_15 : decode cX7_requireSymbol 15 = .ok (.invokespecial 88, 3) := by decide +kernel
theorem dX7_requireSymbol_18 : decode cX7_requireSymbol 18 = .ok (.athrow, 1) := by decide +kernel
theorem dX7_requireSymbol_19 : decode cX7_requireSymbol 19 = .ok (.return_, 1) := by decide +kernel
theorem dX7_isSymbol_0 : decode cX7_isSymbol 0 = .ok (.iload_n 1, 1) := by decide +kernel
theorem dX7_isSymbol_1 : decode cX7_isSymbol 1 = .ok (.ifCond .lt 21, 3) := by decide +kernel
theorem dX7_isSymbol_4 : decode cX7_isSymbol 4 = .ok (.iload_n 1, 1) := by decide +kernel
theorem dX7_isSymbol_5 : decode cX7_isSymbol 5 = .ok (.aload_n 0, 1) := by decide +kernel
theorem dX7_isSymbol_6 : decode cX7_isSymbol 6 = .ok (.getfield 16, 3) := by decide +kernel
theorem dX7_isSymbol_9 : decode cX7_isSymbol 9 = .ok (.getfield 136, 3) := by decide +kernel
theorem dX7_isSymbol_12 : decode cX7_isSymbol 12 = .ok (.getfield 215, 3) := by decide +kernel
theorem dX7_isSymbol_15 : decode cX7_isSymbol 15 = .ok (.if_icmp .ge 7, 3) := by decide +kernel
theorem dX7_isSymbol_18 : decode cX7_isSymbol 18 = .ok (.iconst 1, 1) := by decide +kernel
theorem dX7_isSymbol_19 : decode cX7_isSymbol 19 = .ok (.goto 4, 3) := by decide +kernel
theorem dX7_isSymbol_22 : decode cX7_isSymbol 22 = .ok (.iconst 0, 1) := by decide +kernel
theorem dX7_isSymbol_23 : decode cX7_isSymbol 23 = .ok (.ireturn, 1) := by decide +kernel
theorem dX7_requireIndex_0 : decode cX7_requireIndex 0 = .ok (.iload_n 0, 1) := by decide +kernel
theorem dX7_requireIndex_1 : decode cX7_requireIndex 1 = .ok (.ifCond .lt 8, 3) := by decide +kernel
theorem dX7_requireIndex_4 : decode cX7_requireIndex 4 = .ok (.iload_n 0, 1) := by decide +kernel
theorem dX7_requireIndex_5 : decode cX7_requireIndex 5 = .ok (.iload_n 1, 1) := by decide +kernel
theorem dX7_requireIndex_6 : decode cX7_requireIndex 6 = .ok (.if_icmp .lt 14, 3) := by decide +kernel
theorem dX7_requireIndex_9 : decode cX7_requireIndex 9 = .ok (.new 275, 3) := by decide +kernel
theorem dX7_requireIndex_12 : decode cX7_requireIndex 12 = .ok (.dup, 1) := by decide +kernel
theorem dX7_requireIndex_13 : decode cX7_requireIndex 13 = .ok (.ldc_w 277, 3) := by decide +kernel
theorem dX7_requireIndex_16 : decode cX7_requireIndex 16 = .ok (.invokespecial 279, 3) := by decide +kernel
theorem dX7_requireIndex_19 : decode cX7_requireIndex 19 = .ok (.athrow, 1) := by decide +kernel
theorem dX7_requireIndex_20 : decode cX7_requireIndex 20 = .ok (.return_, 1) := by decide +kernel
theorem dX7_hasPhrase_0 : decode cX7_hasPhrase 0 = .ok (.aload_n 0, 1) := by decide +kernel
theorem dX7_hasPhrase_1 : decode cX7_hasPhrase 1 = .ok (.getfield 16, 3) := by decide +kernel
theorem dX7_hasPhrase_4 : decode cX7_hasPhrase 4 = .ok (.getfield 280, 3) := by decide +kernel
theorem dX7_hasPhrase_7 : decode cX7_hasPhrase 7 = .ok (.iconst (-1), 1) := by decide +kernel
theorem dX7_hasPhrase_8 : decode cX7_hasPhrase 8 = .ok (.if_icmp .eq 7, 3) := by decide +kernel
theorem dX7_hasPhrase_11 : decode cX7_hasPhrase 11 = .ok (.iconst 1, 1) := by decide +kernel
theorem dX7_hasPhrase_12 : decode cX7_hasPhrase 12 = .ok (.goto 4, 3) := by decide +kernel
theorem dX7_hasPhrase_15 : decode cX7_hasPhrase 15 = .ok (.iconst 0, 1) := by decide +kernel
theorem dX7_hasPhrase_16 : decode cX7_hasPhrase 16 = .ok (.ireturn, 1) := by decide +kernel
theorem dX7_currentPhrase_0 : decode cX7_currentPhrase 0 = .ok (.aload_n 0, 1) := by decide +kernel
theorem dX7_currentPhrase_1 : decode cX7_currentPhrase 1 = .ok (.getfield 16, 3) := by decide +kernel
theorem dX7_currentPhrase_4 : decode cX7_currentPhrase 4 = .ok (.getfield 280, 3) := by decide +kernel
theorem dX7_currentPhrase_7 : decode cX7_currentPhrase 7 = .ok (.iconst (-1), 1) := by decide +kernel
theorem dX7_currentPhrase_8 : decode cX7_currentPhrase 8 = .ok (.if_icmp .ne 14, 3) := by decide +kernel
theorem dX7_currentPhrase_11 : decode cX7_currentPhrase 11 = .ok (.new 197, 3) := by decide +kernel
theorem dX7_currentPhrase_14 : decode cX7_currentPhrase 14 = .ok (.dup, 1) := by decide +kernel
theorem dX7_currentPhrase_15 : decode cX7_currentPhrase 15 = .ok (.ldc_w 283, 3) := by decide +kernel
theorem dX7_currentPhrase_18 : decode cX7_currentPhrase 18 = .ok (.invokespecial 201, 3) := by decide +kernel
theorem dX7_currentPhrase_21 : decode cX7_currentPhrase 21 = .ok (.athrow, 1) := by decide +kernel
theorem dX7_currentPhrase_22 : decode cX7_currentPhrase 22 = .ok (.aload_n 0, 1) := by decide +kernel
theorem dX7_currentPhrase_23 : decode cX7_currentPhrase 23 = .ok (.getfield 16, 3) := by decide +kernel
theorem dX7_currentPhrase_26 : decode cX7_currentPhrase 26 = .ok (.getfield 280, 3) := by decide +kernel
theorem dX7_currentPhrase_29 : decode cX7_currentPhrase 29 = .ok (.ireturn, 1) := by decide +kernel
set_option maxRecDepth 20000 in
theorem ggX7_codesIfEncoded_X7_requireSymbol : GoodIn wsX7_codesIfEncoded wsX7_requireSymbol := goodIn_ca (goodIn_r _ [6, 7, 8, 9, 10, 11, 5, 12, 1, 68, 69, 70, 71, 72, 73, 74, 75, 76, 77, 78, 79, 80, 81, 82, 83, 84, 85, 86, 87, 88, 89, 90, 91, 92, 93, 94, 95, 96, 97, 98, 99, 100] (by decide +kernel) (by decide +kernel)) (goodIn_sub (fun _ h => List.mem_cons_of_mem _ (List.mem_append_right _ h)) (by decide +kernel))
set_option maxRecDepth 20000 in
theorem gX7_codesIfEncoded_X7_requireSymbol : GoodIn wsX7_codesIfEncoded (wsV RX7 154 RX7 yX7_requireSymbol wsX7_requireSymbol) := goodIn_app (goodIn_of _ (by decide +kernel)) ggX7_codesIfEncoded_X7_requireSymbol
set_option maxRecDepth 20000 in
theorem ggX7_codesIfEncoded_X2_codesFor : GoodIn wsX7_codesIfEncoded wsX2_codesFor := goodIn_r _ [17, 18, 19, 20, 21, 22, 23, 24, 25, 26, 27, 28, 29, 5, 30, 31, 32, 33, 16, 34, 35, 36, 37, 38, 39, 40, 41, 42, 43, 44, 45, 46, 47, 48, 49, 50, 51, 52, 53, 54, 55, 56, 57, 58, 59, 60, 61, 62, 63, 64, 65, 66, 67, 79, 80, 81, 82, 83, 84, 85, 86, 87, 88, 89, 90, 91, 92, 93, 94, 95, 96, 97, 98, 99, 100] (by decide +kernel) (by decide +kernel)
set_option maxRecDepth 20000 in
theorem gX7_codesIfEncoded_X2_codesFor : GoodIn wsX7_codesIfEncoded (wsV RX7 285 RX2 yX2_codesFor wsX2_codesFor) := goodIn_app (goodIn_of _ (by decide +kernel)) ggX7_codesIfEncoded_X2_codesFor
theorem dX7_codesIfEncoded_0 : decode cX7_codesIfEncoded 0 = .ok (.aload_n 0, 1) := by decide +kernel
theorem dX7_codesIfEncoded_1 : decode cX7_codesIfEncoded 1 = .ok (.iload_n 1, 1) := by decide +kernel
theorem dX7_codesIfEncoded_2 : decode cX7_codesIfEncoded 2 = .ok (.invokevirtual 154, 3) := by decide +kernel
theorem dX7_codesIfEncoded_5 : decode cX7_codesIfEncoded 5 = .ok (.aload_n 0, 1) := by decide +kernel
theorem dX7_codesIfEncoded_6 : decode cX7_codesIfEncoded 6 = .ok (.getfield 16, 3) := by decide +kernel
theorem dX7_codesIfEncoded_9 : decode cX7_codesIfEncoded 9 = .ok (.iload_n 1, 1) := by decide +kernel
theorem dX7_codesIfEncoded_10 : decode cX7_codesIfEncoded 10 = .ok (.invokevirtual 285, 3) := by decide +kernel
theorem dX7_codesIfEncoded_13 : decode cX7_codesIfEncoded 13 = .ok (.ireturn, 1) := by decide +kernel
set_option maxRecDepth 20000 in
theorem ggX7_clearsIfEncoded_X7_requireSymbol : GoodIn wsX7_clearsIfEncoded wsX7_requireSymbol := goodIn_ca (goodIn_r _ [6, 7, 8, 9, 10, 11, 5, 12, 1, 68, 69, 70, 71, 72, 73, 74, 75, 76, 77, 78, 79, 80, 81, 82, 83, 84, 85, 86, 87, 88, 89, 90, 91, 92, 93, 94, 95, 96, 97, 98, 99, 100] (by decide +kernel) (by decide +kernel)) (goodIn_sub (fun _ h => List.mem_cons_of_mem _ (List.mem_append_right _ h)) (by decide +kernel))
set_option maxRecDepth 20000 in
theorem gX7_clearsIfEncoded_X7_requireSymbol : GoodIn wsX7_clearsIfEncoded (wsV RX7 154 RX7 yX7_requireSymbol wsX7_requireSymbol) := goodIn_app (goodIn_of _ (by decide +kernel)) ggX7_clearsIfEncoded_X7_requireSymbol
set_option maxRecDepth 20000 in
theorem ggX7_clearsIfEncoded_X2_codesFor : GoodIn wsX7_clearsIfEncoded wsX2_codesFor := goodIn_r _ [17, 18, 19, 20, 21, 22, 23, 24, 25, 26, 27, 28, 29, 5, 30, 31, 32, 33, 16, 34, 35, 36, 37, 38, 39, 40, 41, 42, 43, 44, 45, 46, 47, 48, 49, 50, 51, 52, 53, 54, 55, 56, 57, 58, 59, 60, 61, 62, 63, 64, 65, 66, 67, 79, 80, 81, 82, 83, 84, 85, 86, 87, 88, 89, 90, 91, 92, 93, 94, 95, 96, 97, 98, 99, 100] (by decide +kernel) (by decide +kernel)
set_option maxRecDepth 20000 in
theorem gX7_clearsIfEncoded_X2_codesFor : GoodIn wsX7_clearsIfEncoded (wsV RX7 285 RX2 yX2_codesFor wsX2_codesFor) := goodIn_app (goodIn_of _ (by decide +kernel)) ggX7_clearsIfEncoded_X2_codesFor
theorem dX7_clearsIfEncoded_0 : decode cX7_clearsIfEncoded 0 = .ok (.aload_n 0, 1) := by decide +kernel
theorem dX7_clearsIfEncoded_1 : decode cX7_clearsIfEncoded 1 = .ok (.iload_n 1, 1) := by decide +kernel
theorem dX7_clearsIfEncoded_2 : decode cX7_clearsIfEncoded 2 = .ok (.invokevirtual 154, 3) := by decide +kernel
theorem dX7_clearsIfEncoded_5 : decode cX7_clearsIfEncoded 5 = .ok (.aload_n 0, 1) := by decide +kernel
theorem dX7_clearsIfEncoded_6 : decode cX7_clearsIfEncoded 6 = .ok (.getfield 16, 3) := by decide +kernel
