theorem dX8_init_0 : decode cX8_init 0 = .ok (.aload_n 0, 1) := by decide +kernel
theorem dX8_init_1 : decode cX8_init 1 = .ok (.invokespecial 1, 3) := by decide +kernel
theorem dX8_init_4 : decode cX8_init 4 = .ok (.aload_n 0, 1) := by decide +kernel
theorem dX8_init_5 : decode cX8_init 5 = .ok (.sipush 800, 3) := by decide +kernel
theorem dX8_init_8 : decode cX8_init 8 = .ok (.newarray .byte, 2) := by decide +kernel
theorem dX8_init_10 : decode cX8_init 10 = .ok (.putfield 7, 3) := by decide +kernel
theorem dX8_init_13 : decode cX8_init 13 = .ok (.aload_n 0, 1) := by decide +kernel
theorem dX8_init_14 : decode cX8_init 14 = .ok (.iconst (-1), 1) := by decide +kernel
theorem dX8_init_15 : decode cX8_init 15 = .ok (.putfield 13, 3) := by decide +kernel
theorem dX8_init_18 : decode cX8_init 18 = .ok (.aload_n 0, 1) := by decide +kernel
theorem dX8_init_19 : decode cX8_init 19 = .ok (.sipush 1726, 3) := by decide +kernel
theorem dX8_init_22 : decode cX8_init 22 = .ok (.newarray .int, 2) := by decide +kernel
theorem dX8_init_24 : decode cX8_init 24 = .ok (.putfield 17, 3) := by decide +kernel
theorem dX8_init_27 : decode cX8_init 27 = .ok (.aload_n 0, 1) := by decide +kernel
theorem dX8_init_28 : decode cX8_init 28 = .ok (.sipush 1726, 3) := by decide +kernel
theorem dX8_init_31 : decode cX8_init 31 = .ok (.newarray .int, 2) := by decide +kernel
theorem dX8_init_33 : decode cX8_init 33 = .ok (.putfield 21, 3) := by decide +kernel
theorem dX8_init_36 : decode cX8_init 36 = .ok (.aload_n 0, 1) := by decide +kernel
theorem dX8_init_37 : decode cX8_init 37 = .ok (.sipush 13808, 3) := by decide +kernel
theorem dX8_init_40 : decode cX8_init 40 = .ok (.newarray .int, 2) := by decide +kernel
theorem dX8_init_42 : decode cX8_init 42 = .ok (.putfield 24, 3) := by decide +kernel
theorem dX8_init_45 : decode cX8_init 45 = .ok (.aload_n 0, 1) := by decide +kernel
theorem dX8_init_46 : decode cX8_init 46 = .ok (.sipush 3452, 3) := by decide +kernel
theorem dX8_init_49 : decode cX8_init 49 = .ok (.newarray .int, 2) := by decide +kernel
theorem dX8_init_51 : decode cX8_init 51 = .ok (.putfield 27, 3) := by decide +kernel
theorem dX8_init_54 : decode cX8_init 54 = .ok (.aload_n 0, 1) := by decide +kernel
theorem dX8_init_55 : decode cX8_init 55 = .ok (.iconst 2, 1) := by decide +kernel
theorem dX8_init_56 : decode cX8_init 56 = .ok (.newarray .boolean, 2) := by decide +kernel
theorem dX8_init_58 : decode cX8_init 58 = .ok (.putfield 30, 3) := by decide +kernel
theorem dX8_init_61 : decode cX8_init 61 = .ok (.aload_n 0, 1) := by decide +kernel
theorem dX8_init_62 : decode cX8_init 62 = .ok (.sipush 256, 3) := by decide +kernel
theorem dX8_init_65 : decode cX8_init 65 = .ok (.newarray .int, 2) := by decide +kernel
theorem dX8_init_67 : decode cX8_init 67 = .ok (.putfield 34, 3) := by decide +kernel
theorem dX8_init_70 : decode cX8_init 70 = .ok (.aload_n 0, 1) := by decide +kernel
theorem dX8_init_71 : decode cX8_init 71 = .ok (.sipush 256, 3) := by decide +kernel
theorem dX8_init_74 : decode cX8_init 74 = .ok (.newarray .int, 2) := by decide +kernel
theorem dX8_init_76 : decode cX8_init 76 = .ok (.putfield 37, 3) := by decide +kernel
theorem dX8_init_79 : decode cX8_init 79 = .ok (.aload_n 0, 1) := by decide +kernel
theorem dX8_init_80 : decode cX8_init 80 = .ok (.sipush 400, 3) := by decide +kernel
theorem dX8_init_83 : decode cX8_init 83 = .ok (.newarray .int, 2) := by decide +kernel
theorem dX8_init_85 : decode cX8_init 85 = .ok (.putfield 40, 3) := by decide +kernel
theorem dX8_init_88 : decode cX8_init 88 = .ok (.aload_n 0, 1) := by decide +kernel
theorem dX8_init_89 : decode cX8_init 89 = .ok (.sipush 400, 3) := by decide +kernel
theorem dX8_init_92 : decode cX8_init 92 = .ok (.newarray .int, 2) := by decide +kernel
theorem dX8_init_94 : decode cX8_init 94 = .ok (.putfield 43, 3) := by decide +kernel
theorem dX8_init_97 : decode cX8_init 97 = .ok (.aload_n 0, 1) := by decide +kernel
theorem dX8_init_98 : decode cX8_init 98 = .ok (.sipush 500, 3) := by decide +kernel
theorem dX8_init_101 : decode cX8_init 101 = .ok (.newarray .byte, 2) := by decide +kernel
theorem dX8_init_103 : decode cX8_init 103 = .ok (.putfield 46, 3) := by decide +kernel
theorem dX8_init_106 : decode cX8_init 106 = .ok (.aload_n 0, 1) := by decide +kernel
theorem dX8_init_107 : decode cX8_init 107 = .ok (.getfield 17, 3) := by decide +kernel
theorem dX8_init_110 : decode cX8_init 110 = .ok (.iconst 0, 1) := by decide +kernel
theorem dX8_init_111 : decode cX8_init 111 = .ok (.iconst 4, 1) := by decide +kernel
theorem dX8_init_112 : decode cX8_init 112 = .ok (.iastore, 1) := by decide +kernel
theorem dX8_init_113 : decode cX8_init 113 = .ok (.aload_n 0, 1) := by decide +kernel
theorem dX8_init_114 : decode cX8_init 114 = .ok (.getfield 17, 3) := by decide +kernel
theorem dX8_init_117 : decode cX8_init 117 = .ok (.iconst 1, 1) := by decide +kernel
theorem dX8_init_118 : decode cX8_init 118 = .ok (.iconst 4, 1) := by decide +kernel
theorem dX8_init_119 : decode cX8_init 119 = .ok (.iastore, 1) := by decide +kernel
theorem dX8_init_120 : decode cX8_init 120 = .ok (.aload_n 0, 1) := by decide +kernel
theorem dX8_init_121 : decode cX8_init 121 = .ok (.getfield 17, 3) := by decide +kernel
theorem dX8_init_124 : decode cX8_init 124 = .ok (.iconst 2, 1) := by decide +kernel
theorem dX8_init_125 : decode cX8_init 125 = .ok (.iconst 1, 1) := by decide +kernel
theorem dX8_init_126 : decode cX8_init 126 = .ok (.iastore, 1) := by decide +kernel
theorem dX8_init_127 : decode cX8_init 127 = .ok (.aload_n 0, 1) := by decide +kernel
theorem dX8_init_128 : decode cX8_init 128 = .ok (.getfield 17, 3) := by decide +kernel
theorem dX8_init_131 : decode cX8_init 131 = .ok (.iconst 3, 1) := by decide +kernel
theorem dX8_init_132 : decode cX8_init 132 = .ok (.bipush 90, 2) := by decide +kernel
theorem dX8_init_134 : decode cX8_init 134 = .ok (.iastore, 1) := by decide +kernel
theorem dX8_init_135 : decode cX8_init 135 = .ok (.aload_n 0, 1) := by decide +kernel
theorem dX8_init_136 : decode cX8_init 136 = .ok (.getfield 17, 3) := by decide +kernel
theorem dX8_init_139 : decode cX8_init 139 = .ok (.iconst 4, 1) := by decide +kernel
theorem dX8_init_140 : decode cX8_init 140 = .ok (.iconst 5, 1) := by decide +kernel
theorem dX8_init_141 : decode cX8_init 141 = .ok (.iastore, 1) := by decide +kernel
theorem dX8_init_142 : decode cX8_init 142 = .ok (.return_, 1) := by decide +kernel
theorem dX8_thrown_0 : decode cX8_thrown 0 = .ok (.aload_n 0, 1) := by decide +kernel
theorem dX8_thrown_1 : decode cX8_thrown 1 = .ok (.getfield 49, 3) := by decide +kernel
theorem dX8_thrown_4 : decode cX8_thrown 4 = .ok (.ireturn, 1) := by decide +kernel
theorem dX8_in_0 : decode cX8_in 0 = .ok (.iload_n 0, 1) := by decide +kernel
theorem dX8_in_1 : decode cX8_in 1 = .ok (.iload_n 1, 1) := by decide +kernel
theorem dX8_in_2 : decode cX8_in 2 = .ok (.if_icmp .lt 12, 3) := by decide +kernel
theorem dX8_in_5 : decode cX8_in 5 = .ok (.iload_n 0, 1) := by decide +kernel
theorem dX8_in_6 : decode cX8_in 6 = .ok (.iload_n 2, 1) := by decide +kernel
theorem dX8_in_7 : decode cX8_in 7 = .ok (.if_icmp .gt 7, 3) := by decide +kernel
theorem dX8_in_10 : decode cX8_in 10 = .ok (.iconst 1, 1) := by decide +kernel
theorem dX8_in_11 : decode cX8_in 11 = .ok (.goto 4, 3) := by decide +kernel
theorem dX8_in_14 : decode cX8_in 14 = .ok (.iconst 0, 1) := by decide +kernel
theorem dX8_in_15 : decode cX8_in 15 = .ok (.ireturn, 1) := by decide +kernel
theorem dX8_more_0 : decode cX8_more 0 = .ok (.iload_n 0, 1) := by decide +kernel
theorem dX8_more_1 : decode cX8_more 1 = .ok (.iload_n 1, 1) := by decide +kernel
theorem dX8_more_2 : decode cX8_more 2 = .ok (.if_icmp .le 7, 3) := by decide +kernel
theorem dX8_more_5 : decode cX8_more 5 = .ok (.iload_n 0, 1) := by decide +kernel
theorem dX8_more_6 : decode cX8_more 6 = .ok (.goto 4, 3) := by decide +kernel
theorem dX8_more_9 : decode cX8_more 9 = .ok (.iload_n 1, 1) := by decide +kernel
theorem dX8_more_10 : decode cX8_more 10 = .ok (.ireturn, 1) := by decide +kernel
theorem dX8_throwing_0 : decode cX8_throwing 0 = .ok (.aload_n 0, 1) := by decide +kernel
theorem dX8_throwing_1 : decode cX8_throwing 1 = .ok (.iload_n 1, 1) := by decide +kernel
theorem dX8_throwing_2 : decode cX8_throwing 2 = .ok (.putfield 49, 3) := by decide +kernel
theorem dX8_throwing_5 : decode cX8_throwing 5 = .ok (.iconst 0, 1) := by decide +kernel
theorem dX8_throwing_6 : decode cX8_throwing 6 = .ok (.ireturn, 1) := by decide +kernel
theorem dX8_told_0 : decode cX8_told 0 = .ok (.aload_n 0, 1) := by decide +kernel
theorem dX8_told_1 : decode cX8_told 1 = .ok (.iconst 0, 1) := by decide +kernel
theorem dX8_told_2 : decode cX8_told 2 = .ok (.putfield 49, 3) := by decide +kernel
theorem dX8_told_5 : decode cX8_told 5 = .ok (.iload_n 1, 1) := by decide +kernel
theorem dX8_told_6 : decode cX8_told 6 = .ok (.ireturn, 1) := by decide +kernel
theorem dX8_toldIf_0 : decode cX8_toldIf 0 = .ok (.aload_n 0, 1) := by decide +kernel
theorem dX8_toldIf_1 : decode cX8_toldIf 1 = .ok (.iconst 0, 1) := by decide +kernel
theorem dX8_toldIf_2 : decode cX8_toldIf 2 = .ok (.putfield 49, 3) := by decide +kernel
theorem dX8_toldIf_5 : decode cX8_toldIf 5 = .ok (.iload_n 1, 1) := by decide +kernel
theorem dX8_toldIf_6 : decode cX8_toldIf 6 = .ok (.ireturn, 1) := by decide +kernel
theorem dX8_keepsAside_0 : decode cX8_keepsAside 0 = .ok (.iconst 0, 1) := by decide +kernel
theorem dX8_keepsAside_1 : decode cX8_keepsAside 1 = .ok (.istore_n 1, 1) := by decide +kernel
theorem dX8_keepsAside_2 : decode cX8_keepsAside 2 = .ok (.iload_n 1, 1) := by decide +kernel
theorem dX8_keepsAside_3 : decode cX8_keepsAside 3 = .ok (.sipush 1726, 3) := by decide +kernel
theorem dX8_keepsAside_6 : decode cX8_keepsAside 6 = .ok (.if_icmp .ge 21, 3) := by decide +kernel
theorem dX8_keepsAside_9 : decode cX8_keepsAside 9 = .ok (.aload_n 0, 1) := by decide +kernel
theorem dX8_keepsAside_10 : decode cX8_keepsAside 10 = .ok (.getfield 21, 3) := by decide +kernel
theorem dX8_keepsAside_13 : decode cX8_keepsAside 13 = .ok (.iload_n 1, 1) := by decide +kernel
theorem dX8_keepsAside_14 : decode cX8_keepsAside 14 = .ok (.aload_n 0, 1) := by decide +kernel
theorem dX8_keepsAside_15 : decode cX8_keepsAside 15 = .ok (.getfield 17, 3) := by decide +kernel
theorem dX8_keepsAside_18 : decode cX8_keepsAside 18 = .ok (.iload_n 1, 1) := by decide +kernel
theorem dX8_keepsAside_19 : decode cX8_keepsAside 19 = .ok (.iaload, 1) := by decide +kernel
theorem dX8_keepsAside_20 : decode cX8_keepsAside 20 = .ok (.iastore, 1) := by decide +kernel
theorem dX8_keepsAside_21 : decode cX8_keepsAside 21 = .ok (.iinc 1 1, 3) := by decide +kernel
theorem dX8_keepsAside_24 : decode cX8_keepsAside 24 = .ok (.goto (-22), 3) := by decide +kernel
theorem dX8_keepsAside_27 : decode cX8_keepsAside 27 = .ok (.return_, 1) := by decide +kernel
theorem dX8_takesBack_0 : decode cX8_takesBack 0 = .ok (.iconst 0, 1) := by decide +kernel
theorem dX8_takesBack_1 : decode cX8_takesBack 1 = .ok (.istore_n 1, 1) := by decide +kernel
theorem dX8_takesBack_2 : decode cX8_takesBack 2 = .ok (.iload_n 1, 1) := by decide +kernel
theorem dX8_takesBack_3 : decode cX8_takesBack 3 = .ok (.sipush 1726, 3) := by decide +kernel
theorem dX8_takesBack_6 : decode cX8_takesBack 6 = .ok (.if_icmp .ge 21, 3) := by decide +kernel
theorem dX8_takesBack_9 : decode cX8_takesBack 9 = .ok (.aload_n 0, 1) := by decide +kernel
theorem dX8_takesBack_10 : decode cX8_takesBack 10 = .ok (.getfield 17, 3) := by decide +kernel
theorem dX8_takesBack_13 : decode cX8_takesBack 13 = .ok (.iload_n 1, 1) := by decide +kernel
theorem dX8_takesBack_14 : decode cX8_takesBack 14 = .ok (.aload_n 0, 1) := by decide +kernel
theorem dX8_takesBack_15 : decode cX8_takesBack 15 = .ok (.getfield 21, 3) := by decide +kernel
theorem dX8_takesBack_18 : decode cX8_takesBack 18 = .ok (.iload_n 1, 1) := by decide +kernel
theorem dX8_takesBack_19 : decode cX8_takesBack 19 = .ok (.iaload, 1) := by decide +kernel
theorem dX8_takesBack_20 : decode cX8_takesBack 20 = .ok (.iastore, 1) := by decide +kernel
theorem dX8_takesBack_21 : decode cX8_takesBack 21 = .ok (.iinc 1 1, 3) := by decide +kernel
theorem dX8_takesBack_24 : decode cX8_takesBack 24 = .ok (.goto (-22), 3) := by decide +kernel
theorem dX8_takesBack_27 : decode cX8_takesBack 27 = .ok (.return_, 1) := by decide +kernel
set_option maxRecDepth 20000 in
theorem ggX8_changed_X8_told : GoodIn wsX8_changed wsX8_told := goodIn_r _ [8, 9, 10, 11, 12, 13, 14, 15, 16, 17, 18, 19, 20, 21, 22, 23, 24, 25, 26, 27, 28, 29, 30, 31, 32, 33, 34, 35, 36] (by decide +kernel) (by decide +kernel)
set_option maxRecDepth 20000 in
theorem gX8_changed_X8_told : GoodIn wsX8_changed (wsV RX8 55 RX8 yX8_told wsX8_told) := goodIn_app (goodIn_of _ (by decide +kernel)) ggX8_changed_X8_told
theorem dX8_changed_0 : decode cX8_changed 0 = .ok (.aload_n 0, 1) := by decide +kernel
theorem dX8_changed_1 : decode cX8_changed 1 = .ok (.getfield 52, 3) := by decide +kernel
theorem dX8_changed_4 : decode cX8_changed 4 = .ok (.bipush 8, 2) := by decide +kernel
theorem dX8_changed_6 : decode cX8_changed 6 = .ok (.if_icmp .ne 44, 3) := by decide +kernel
theorem dX8_changed_9 : decode cX8_changed 9 = .ok (.iconst 0, 1) := by decide +kernel
theorem dX8_changed_10 : decode cX8_changed 10 = .ok (.istore_n 2, 1) := by decide +kernel
theorem dX8_changed_11 : decode cX8_changed 11 = .ok (.iload_n 2, 1) := by decide +kernel
theorem dX8_changed_12 : decode cX8_changed 12 = .ok (.sipush 12082, 3) := by decide +kernel
theorem dX8_changed_15 : decode cX8_changed 15 = .ok (.if_icmp .ge 25, 3) := by decide +kernel
theorem dX8_changed_18 : decode cX8_changed 18 = .ok (.aload_n 0, 1) := by decide +kernel
theorem dX8_changed_19 : decode cX8_changed 19 = .ok (.getfield 24, 3) := by decide +kernel
theorem dX8_changed_22 : decode cX8_changed 22 = .ok (.iload_n 2, 1) := by decide +kernel
theorem dX8_changed_23 : decode cX8_changed 23 = .ok (.aload_n 0, 1) := by decide +kernel
theorem dX8_changed_24 : decode cX8_changed 24 = .ok (.getfield 24, 3) := by decide +kernel
theorem dX8_changed_27 : decode cX8_changed 27 = .ok (.iload_n 2, 1) := by decide +kernel
theorem dX8_changed_28 : decode cX8_changed 28 = .ok (.sipush 1726, 3) := by decide +kernel
theorem dX8_changed_31 : decode cX8_changed 31 = .ok (.iadd, 1) := by decide +kernel
theorem dX8_changed_32 : decode cX8_changed 32 = .ok (.iaload, 1) := by decide +kernel
theorem dX8_changed_33 : decode cX8_changed 33 = .ok (.iastore, 1) := by decide +kernel
theorem dX8_changed_34 : decode cX8_changed 34 = .ok (.iinc 2 1, 3) := by decide +kernel
theorem dX8_changed_37 : decode cX8_changed 37 = .ok (.goto (-26), 3) := by decide +kernel
theorem dX8_changed_40 : decode cX8_changed 40 = .ok (.aload_n 0, 1) := by decide +kernel
theorem dX8_changed_41 : decode cX8_changed 41 = .ok (.dup, 1) := by decide +kernel
theorem dX8_changed_42 : decode cX8_changed 42 = .ok (.getfield 52, 3) := by decide +kernel
theorem dX8_changed_45 : decode cX8_changed 45 = .ok (.iconst 1, 1) := by decide +kernel
theorem dX8_changed_46 : decode cX8_changed 46 = .ok (.isub, 1) := by decide +kernel
theorem dX8_changed_47 : decode cX8_changed 47 = .ok (.putfield 52, 3) := by decide +kernel
theorem dX8_changed_50 : decode cX8_changed 50 = .ok (.iconst 0, 1) := by decide +kernel
theorem dX8_changed_51 : decode cX8_changed 51 = .ok (.istore_n 2, 1) := by decide +kernel
theorem dX8_changed_52 : decode cX8_changed 52 = .ok (.iload_n 2, 1) := by decide +kernel
theorem dX8_changed_53 : decode cX8_changed 53 = .ok (.sipush 1726, 3) := by decide +kernel
theorem dX8_changed_56 : decode cX8_changed 56 = .ok (.if_icmp .ge 30, 3) := by decide +kernel
theorem dX8_changed_59 : decode cX8_changed 59 = .ok (.aload_n 0, 1) := by decide +kernel
theorem dX8_changed_60 : decode cX8_changed 60 = .ok (.getfield 24, 3) := by decide +kernel
theorem dX8_changed_63 : decode cX8_changed 63 = .ok (.sipush 1726, 3) := by decide +kernel
theorem dX8_changed_66 : decode cX8_changed 66 = .ok (.aload_n 0, 1) := by decide +kernel
theorem dX8_changed_67 : decode cX8_changed 67 = .ok (.getfield 52, 3) := by decide +kernel
theorem dX8_changed_70 : decode cX8_changed 70 = .ok (.imul, 1) := by decide +kernel
theorem dX8_changed_71 : decode cX8_changed 71 = .ok (.iload_n 2, 1) := by decide +kernel
theorem dX8_changed_72 : decode cX8_changed 72 = .ok (.iadd, 1) := by decide +kernel
theorem dX8_changed_73 : decode cX8_changed 73 = .ok (.aload_n 0, 1) := by decide +kernel
theorem dX8_changed_74 : decode cX8_changed 74 = .ok (.getfield 21, 3) := by decide +kernel
theorem dX8_changed_77 : decode cX8_changed 77 = .ok (.iload_n 2, 1) := by decide +kernel
theorem dX8_changed_78 : decode cX8_changed 78 = .ok (.iaload, 1) := by decide +kernel
theorem dX8_changed_79 : decode cX8_changed 79 = .ok (.iastore, 1) := by decide +kernel
theorem dX8_changed_80 : decode cX8_changed 80 = .ok (.iinc 2 1, 3) := by decide +kernel
theorem dX8_changed_83 : decode cX8_changed 83 = .ok (.goto (-31), 3) := by decide +kernel
theorem dX8_changed_86 : decode cX8_changed 86 = .ok (.aload_n 0, 1) := by decide +kernel
theorem dX8_changed_87 : decode cX8_changed 87 = .ok (.dup, 1) := by decide +kernel
theorem dX8_changed_88 : decode cX8_changed 88 = .ok (.getfield 52, 3) := by decide +kernel
theorem dX8_changed_91 : decode cX8_changed 91 = .ok (.iconst 1, 1) := by decide +kernel
theorem dX8_changed_92 : decode cX8_changed 92 = .ok (.iadd, 1) := by decide +kernel
theorem dX8_changed_93 : decode cX8_changed 93 = .ok (.putfield 52, 3) := by decide +kernel
theorem dX8_changed_96 : decode cX8_changed 96 = .ok (.aload_n 0, 1) := by decide +kernel
theorem dX8_changed_97 : decode cX8_changed 97 = .ok (.iload_n 1, 1) := by decide +kernel
theorem dX8_changed_98 : decode cX8_changed 98 = .ok (.invokevirtual 55, 3) := by decide +kernel
theorem dX8_changed_101 : decode cX8_changed 101 = .ok (.ireturn, 1) := by decide +kernel
set_option maxRecDepth 20000 in
theorem ggX8_undo_X8_throwing : GoodIn wsX8_undo wsX8_throwing := goodIn_r _ [8, 9, 14, 15, 16, 17, 18, 19, 20, 21, 22, 23, 24, 25, 26, 27, 28, 29, 30, 31, 32, 33, 34, 35, 36, 37, 38, 39, 40] (by decide +kernel) (by decide +kernel)
set_option maxRecDepth 20000 in
theorem gX8_undo_X8_throwing : GoodIn wsX8_undo (wsV RX8 59 RX8 yX8_throwing wsX8_throwing) := goodIn_app (goodIn_of _ (by decide +kernel)) ggX8_undo_X8_throwing
set_option maxRecDepth 20000 in
theorem ggX8_undo_X8_told : GoodIn wsX8_undo wsX8_told := goodIn_r _ [13, 9, 14, 15, 16, 17, 18, 19, 20, 21, 22, 23, 24, 25, 26, 27, 28, 29, 30, 31, 32, 33, 34, 35, 36, 37, 38, 39, 40] (by decide +kernel) (by decide +kernel)
set_option maxRecDepth 20000 in
theorem gX8_undo_X8_told : GoodIn wsX8_undo (wsV RX8 55 RX8 yX8_told wsX8_told) := goodIn_app (goodIn_of _ (by decide +kernel)) ggX8_undo_X8_told
theorem dX8_undo_0 : decode cX8_undo 0 = .ok (.aload_n 0, 1) := by decide +kernel
theorem dX8_undo_1 : decode cX8_undo 1 = .ok (.getfield 52, 3) := by decide +kernel
theorem dX8_undo_4 : decode cX8_undo 4 = .ok (.ifCond .ne 9, 3) := by decide +kernel
theorem dX8_undo_7 : decode cX8_undo 7 = .ok (.aload_n 0, 1) := by decide +kernel
theorem dX8_undo_8 : decode cX8_undo 8 = .ok (.iconst 1, 1) := by decide +kernel
theorem dX8_undo_9 : decode cX8_undo 9 = .ok (.invokevirtual 59, 3) := by decide +kernel
theorem dX8_undo_12 : decode cX8_undo 12 = .ok (.ireturn, 1) := by decide +kernel
theorem dX8_undo_13 : decode cX8_undo 13 = .ok (.aload_n 0, 1) := by decide +kernel
theorem dX8_undo_14 : decode cX8_undo 14 = .ok (.dup, 1) := by decide +kernel
theorem dX8_undo_15 : decode cX8_undo 15 = .ok (.getfield 52, 3) := by decide +kernel
theorem dX8_undo_18 : decode cX8_undo 18 = .ok (.iconst 1, 1) := by decide +kernel
theorem dX8_undo_19 : decode cX8_undo 19 = .ok (.isub, 1) := by decide +kernel
theorem dX8_undo_20 : decode cX8_undo 20 = .ok (.putfield 52, 3) := by decide +kernel
theorem dX8_undo_23 : decode cX8_undo 23 = .ok (.iconst 0, 1) := by decide +kernel
theorem dX8_undo_24 : decode cX8_undo 24 = .ok (.istore_n 1, 1) := by decide +kernel
theorem dX8_undo_25 : decode cX8_undo 25 = .ok (.iload_n 1, 1) := by decide +kernel
theorem dX8_undo_26 : decode cX8_undo 26 = .ok (.sipush 1726, 3) := by decide +kernel
theorem dX8_undo_29 : decode cX8_undo 29 = .ok (.if_icmp .ge 30, 3) := by decide +kernel
theorem dX8_undo_32 : decode cX8_undo 32 = .ok (.aload_n 0, 1) := by decide +kernel
theorem dX8_undo_33 : decode cX8_undo 33 = .ok (.getfield 17, 3) := by decide +kernel
theorem dX8_undo_36 : decode cX8_undo 36 = .ok (.iload_n 1, 1) := by decide +kernel
theorem dX8_undo_37 : decode cX8_undo 37 = .ok (.aload_n 0, 1) := by decide +kernel
theorem dX8_undo_38 : decode cX8_undo 38 = .ok (.getfield 24, 3) := by decide +kernel
theorem dX8_undo_41 : decode cX8_undo 41 = .ok (.sipush 1726, 3) := by decide +kernel
theorem dX8_undo_44 : decode cX8_undo 44 = .ok (.aload_n 0, 1) := by decide +kernel
theorem dX8_undo_45 : decode cX8_undo 45 = .ok (.getfield 52, 3) := by decide +kernel
theorem dX8_undo_48 : decode cX8_undo 48 = .ok (.imul, 1) := by decide +kernel
theorem dX8_undo_49 : decode cX8_undo 49 = .ok (.iload_n 1, 1) := by decide +kernel
theorem dX8_undo_50 : decode cX8_undo 50 = .ok (.iadd, 1) := by decide +kernel
theorem dX8_undo_51 : decode cX8_undo 51 = .ok (.iaload, 1) := by decide +kernel
theorem dX8_undo_52 : decode cX8_undo 52 = .ok (.iastore, 1) := by decide +kernel
theorem dX8_undo_53 : decode cX8_undo 53 = .ok (.iinc 1 1, 3) := by decide +kernel
theorem dX8_undo_56 : decode cX8_undo 56 = .ok (.goto (-31), 3) := by decide +kernel
theorem dX8_undo_59 : decode cX8_undo 59 = .ok (.aload_n 0, 1) := by decide +kernel
theorem dX8_undo_60 : decode cX8_undo 60 = .ok (.aload_n 0, 1) := by decide +kernel
theorem dX8_undo_61 : decode cX8_undo 61 = .ok (.getfield 52, 3) := by decide +kernel
theorem dX8_undo_64 : decode cX8_undo 64 = .ok (.invokevirtual 55, 3) := by decide +kernel
theorem dX8_undo_67 : decode cX8_undo 67 = .ok (.ireturn, 1) := by decide +kernel
set_option maxRecDepth 20000 in
theorem ggX8_isSlot_X8_in : GoodIn wsX8_isSlot wsX8_in := goodIn_r _ [4] (by decide +kernel) (by decide +kernel)
set_option maxRecDepth 20000 in
theorem gX8_isSlot_X8_in : GoodIn wsX8_isSlot (va_wsS RX8 62 yX8_in wsX8_in) := goodIn_app (goodIn_of _ (by decide +kernel)) ggX8_isSlot_X8_in
theorem dX8_isSlot_0 : decode cX8_isSlot 0 = .ok (.iload_n 0, 1) := by decide +kernel
theorem dX8_isSlot_1 : decode cX8_isSlot 1 = .ok (.iconst 0, 1) := by decide +kernel
theorem dX8_isSlot_2 : decode cX8_isSlot 2 = .ok (.iconst 1, 1) := by decide +kernel
theorem dX8_isSlot_3 : decode cX8_isSlot 3 = .ok (.invokestatic 62, 3) := by decide +kernel
theorem dX8_isSlot_6 : decode cX8_isSlot 6 = .ok (.ireturn, 1) := by decide +kernel
set_option maxRecDepth 20000 in
theorem ggX8_save_X8_isSlot : GoodIn wsX8_save wsX8_isSlot := goodIn_r _ [8, 9, 10, 7, 11] (by decide +kernel) (by decide +kernel)
set_option maxRecDepth 20000 in
theorem gX8_save_X8_isSlot : GoodIn wsX8_save (va_wsS RX8 66 yX8_isSlot wsX8_isSlot) := goodIn_app (goodIn_of _ (by decide +kernel)) ggX8_save_X8_isSlot
set_option maxRecDepth 20000 in
theorem ggX8_save_X8_told : GoodIn wsX8_save wsX8_told := goodIn_r _ [15, 1, 20, 21, 22, 23, 24, 25, 26, 27, 28, 29, 30, 31, 32, 33, 34, 35, 36, 37, 38, 39, 40, 41, 42, 43, 44, 45, 46] (by decide +kernel) (by decide +kernel)
set_option maxRecDepth 20000 in
theorem gX8_save_X8_told : GoodIn wsX8_save (wsV RX8 55 RX8 yX8_told wsX8_told) := goodIn_app (goodIn_of _ (by decide +kernel)) ggX8_save_X8_told
set_option maxRecDepth 20000 in
theorem ggX8_save_X8_throwing : GoodIn wsX8_save wsX8_throwing := goodIn_r _ [19, 1, 20, 21, 22, 23, 24, 25, 26, 27, 28, 29, 30, 31, 32, 33, 34, 35, 36, 37, 38, 39, 40, 41, 42, 43, 44, 45, 46] (by decide +kernel) (by decide +kernel)
set_option maxRecDepth 20000 in
theorem gX8_save_X8_throwing : GoodIn wsX8_save (wsV RX8 59 RX8 yX8_throwing wsX8_throwing) := goodIn_app (goodIn_of _ (by decide +kernel)) ggX8_save_X8_throwing
theorem dX8_save_0 : decode cX8_save 0 = .ok (.iload_n 1, 1) := by decide +kernel
theorem dX8_save_1 : decode cX8_save 1 = .ok (.invokestatic 66, 3) := by decide +kernel
theorem dX8_save_4 : decode cX8_save 4 = .ok (.ifCond .eq 11, 3) := by decide +kernel
theorem dX8_save_7 : decode cX8_save 7 = .ok (.aload_n 0, 1) := by decide +kernel
theorem dX8_save_8 : decode cX8_save 8 = .ok (.iconst 0, 1) := by decide +kernel
theorem dX8_save_9 : decode cX8_save 9 = .ok (.invokevirtual 55, 3) := by decide +kernel
theorem dX8_save_12 : decode cX8_save 12 = .ok (.goto 8, 3) := by decide +kernel
theorem dX8_save_15 : decode cX8_save 15 = .ok (.aload_n 0, 1) := by decide +kernel
theorem dX8_save_16 : decode cX8_save 16 = .ok (.iconst 1, 1) := by decide +kernel
theorem dX8_save_17 : decode cX8_save 17 = .ok (.invokevirtual 59, 3) := by decide +kernel
theorem dX8_save_20 : decode cX8_save 20 = .ok (.istore_n 2, 1) := by decide +kernel
theorem dX8_save_21 : decode cX8_save 21 = .ok (.iconst 0, 1) := by decide +kernel
theorem dX8_save_22 : decode cX8_save 22 = .ok (.istore_n 3, 1) := by decide +kernel
theorem dX8_save_23 : decode cX8_save 23 = .ok (.iload_n 3, 1) := by decide +kernel
theorem dX8_save_24 : decode cX8_save 24 = .ok (.sipush 1726, 3) := by decide +kernel
theorem dX8_save_27 : decode cX8_save 27 = .ok (.if_icmp .ge 34, 3) := by decide +kernel
theorem dX8_save_30 : decode cX8_save 30 = .ok (.aload_n 0, 1) := by decide +kernel
theorem dX8_save_31 : decode cX8_save 31 = .ok (.getfield 49, 3) := by decide +kernel
theorem dX8_save_34 : decode cX8_save 34 = .ok (.ifCond .ne 27, 3) := by decide +kernel
theorem dX8_save_37 : decode cX8_save 37 = .ok (.aload_n 0, 1) := by decide +kernel
theorem dX8_save_38 : decode cX8_save 38 = .ok (.getfield 27, 3) := by decide +kernel
theorem dX8_save_41 : decode cX8_save 41 = .ok (.sipush 1726, 3) := by decide +kernel
theorem dX8_save_44 : decode cX8_save 44 = .ok (.iload_n 1, 1) := by decide +kernel
theorem dX8_save_45 : decode cX8_save 45 = .ok (.imul, 1) := by decide +kernel
theorem dX8_save_46 : decode cX8_save 46 = .ok (.iload_n 3, 1) := by decide +kernel
theorem dX8_save_47 : decode cX8_save 47 = .ok (.iadd, 1) := by decide +kernel
theorem dX8_save_48 : decode cX8_save 48 = .ok (.aload_n 0, 1) := by decide +kernel
theorem dX8_save_49 : decode cX8_save 49 = .ok (.getfield 17, 3) := by decide +kernel
theorem dX8_save_52 : decode cX8_save 52 = .ok (.iload_n 3, 1) := by decide +kernel
theorem dX8_save_53 : decode cX8_save 53 = .ok (.iaload, 1) := by decide +kernel
theorem dX8_save_54 : decode cX8_save 54 = .ok (.iastore, 1) := by decide +kernel
theorem dX8_save_55 : decode cX8_save 55 = .ok (.iinc 3 1, 3) := by decide +kernel
theorem dX8_save_58 : decode cX8_save 58 = .ok (.goto (-35), 3) := by decide +kernel
theorem dX8_save_61 : decode cX8_save 61 = .ok (.aload_n 0, 1) := by decide +kernel
theorem dX8_save_62 : decode cX8_save 62 = .ok (.getfield 49, 3) := by decide +kernel
theorem dX8_save_65 : decode cX8_save 65 = .ok (.ifCond .ne 10, 3) := by decide +kernel
theorem dX8_save_68 : decode cX8_save 68 = .ok (.aload_n 0, 1) := by decide +kernel
theorem dX8_save_69 : decode cX8_save 69 = .ok (.getfield 30, 3) := by decide +kernel
theorem dX8_save_72 : decode cX8_save 72 = .ok (.iload_n 1, 1) := by decide +kernel
theorem dX8_save_73 : decode cX8_save 73 = .ok (.iconst 1, 1) := by decide +kernel
theorem dX8_save_74 : decode cX8_save 74 = .ok (.bastore, 1) := by decide +kernel
theorem dX8_save_75 : decode cX8_save 75 = .ok (.return_, 1) := by decide +kernel
set_option maxRecDepth 20000 in
theorem ggX8_restore_X8_isSlot : GoodIn wsX8_restore wsX8_isSlot := goodIn_r _ [7, 8, 9, 6, 10] (by decide +kernel) (by decide +kernel)
set_option maxRecDepth 20000 in
theorem gX8_restore_X8_isSlot : GoodIn wsX8_restore (va_wsS RX8 66 yX8_isSlot wsX8_isSlot) := goodIn_app (goodIn_of _ (by decide +kernel)) ggX8_restore_X8_isSlot
set_option maxRecDepth 20000 in
theorem ggX8_restore_X8_throwing : GoodIn wsX8_restore wsX8_throwing := goodIn_r _ [14, 15, 31, 32, 33, 34, 35, 36, 37, 38, 39, 40, 41, 42, 43, 44, 45, 46, 47, 48, 49, 50, 51, 52, 53, 54, 55, 56, 57] (by decide +kernel) (by decide +kernel)
set_option maxRecDepth 20000 in
theorem gX8_restore_X8_throwing : GoodIn wsX8_restore (wsV RX8 59 RX8 yX8_throwing wsX8_throwing) := goodIn_app (goodIn_of _ (by decide +kernel)) ggX8_restore_X8_throwing
set_option maxRecDepth 20000 in
theorem ggX8_restore_X8_keepsAside : GoodIn wsX8_restore wsX8_keepsAside := goodIn_r _ [19, 20, 2, 31, 32, 33, 34, 35, 36, 37, 38, 39, 40, 41, 42, 43, 44, 45, 46, 47, 48, 49, 50, 51, 52, 53, 54, 55, 56, 57] (by decide +kernel) (by decide +kernel)
set_option maxRecDepth 20000 in
theorem gX8_restore_X8_keepsAside : GoodIn wsX8_restore (wsV RX8 70 RX8 yX8_keepsAside wsX8_keepsAside) := goodIn_app (goodIn_of _ (by decide +kernel)) ggX8_restore_X8_keepsAside
set_option maxRecDepth 20000 in
theorem ggX8_restore_X8_changed : GoodIn wsX8_restore wsX8_changed := goodIn_r _ [24, 25, 26, 20, 27, 28, 29, 6, 30, 15, 31, 32, 33, 34, 35, 36, 37, 38, 39, 40, 41, 42, 43, 44, 45, 46, 47, 48, 49, 50, 51, 52, 53, 54, 55, 56, 57] (by decide +kernel) (by decide +kernel)
set_option maxRecDepth 20000 in
theorem gX8_restore_X8_changed : GoodIn wsX8_restore (wsV RX8 73 RX8 yX8_changed wsX8_changed) := goodIn_app (goodIn_of _ (by decide +kernel)) ggX8_restore_X8_changed
theorem dX8_restore_0 : decode cX8_restore 0 = .ok (.iload_n 1, 1) := by decide +kernel
theorem dX8_restore_1 : decode cX8_restore 1 = .ok (.invokestatic 66, 3) := by decide +kernel
theorem dX8_restore_4 : decode cX8_restore 4 = .ok (.ifCond .ne 9, 3) := by decide +kernel
theorem dX8_restore_7 : decode cX8_restore 7 = .ok (.aload_n 0, 1) := by decide +kernel
theorem dX8_restore_8 : decode cX8_restore 8 = .ok (.iconst 1, 1) := by decide +kernel
theorem dX8_restore_9 : decode cX8_restore 9 = .ok (.invokevirtual 59, 3) := by decide +kernel
theorem dX8_restore_12 : decode cX8_restore 12 = .ok (.ireturn, 1) := by decide +kernel
theorem dX8_restore_13 : decode cX8_restore 13 = .ok (.aload_n 0, 1) := by decide +kernel
theorem dX8_restore_14 : decode cX8_restore 14 = .ok (.getfield 30, 3) := by decide +kernel
theorem dX8_restore_17 : decode cX8_restore 17 = .ok (.iload_n 1, 1) := by decide +kernel
theorem dX8_restore_18 : decode cX8_restore 18 = .ok (.baload, 1) := by decide +kernel
theorem dX8_restore_19 : decode cX8_restore 19 = .ok (.ifCond .ne 9, 3) := by decide +kernel
theorem dX8_restore_22 : decode cX8_restore 22 = .ok (.aload_n 0, 1) := by decide +kernel
theorem dX8_restore_23 : decode cX8_restore 23 = .ok (.iconst 2, 1) := by decide +kernel
theorem dX8_restore_24 : decode cX8_restore 24 = .ok (.invokevirtual 59, 3) := by decide +kernel
theorem dX8_restore_27 : decode cX8_restore 27 = .ok (.ireturn, 1) := by decide +kernel
theorem dX8_restore_28 : decode cX8_restore 28 = .ok (.aload_n 0, 1) := by decide +kernel
theorem dX8_restore_29 : decode cX8_restore 29 = .ok (.invokevirtual 70, 3) := by decide +kernel
theorem dX8_restore_32 : decode cX8_restore 32 = .ok (.iconst 0, 1) := by decide +kernel
theorem dX8_restore_33 : decode cX8_restore 33 = .ok (.istore_n 2, 1) := by decide +kernel
theorem dX8_restore_34 : decode cX8_restore 34 = .ok (.iload_n 2, 1) := by decide +kernel
theorem dX8_restore_35 : decode cX8_restore 35 = .ok (.sipush 1726, 3) := by decide +kernel
theorem dX8_restore_38 : decode cX8_restore 38 = .ok (.if_icmp .ge 27, 3) := by decide +kernel
theorem dX8_restore_41 : decode cX8_restore 41 = .ok (.aload_n 0, 1) := by decide +kernel
theorem dX8_restore_42 : decode cX8_restore 42 = .ok (.getfield 17, 3) := by decide +kernel
theorem dX8_restore_45 : decode cX8_restore 45 = .ok (.iload_n 2, 1) := by decide +kernel
theorem dX8_restore_46 : decode cX8_restore 46 = .ok (.aload_n 0, 1) := by decide +kernel
theorem dX8_restore_47 : decode cX8_restore 47 = .ok (.getfield 27, 3) := by decide +kernel
theorem dX8_restore_50 : decode cX8_restore 50 = .ok (.sipush 1726, 3) := by decide +kernel
theorem dX8_restore_53 : decode cX8_restore 53 = .ok (.iload_n 1, 1) := by decide +kernel
theorem dX8_restore_54 : decode cX8_restore 54 = .ok (.imul, 1) := by decide +kernel
theorem dX8_restore_55 : decode cX8_restore 55 = .ok (.iload_n 2, 1) := by decide +kernel
theorem dX8_restore_56 : decode cX8_restore 56 = .ok (.iadd, 1) := by decide +kernel
theorem dX8_restore_57 : decode cX8_restore 57 = .ok (.iaload, 1) := by decide +kernel
theorem dX8_restore_58 : decode cX8_restore 58 = .ok (.iastore, 1) := by decide +kernel
theorem dX8_restore_59 : decode cX8_restore 59 = .ok (.iinc 2 1, 3) := by decide +kernel
theorem dX8_restore_62 : decode cX8_restore 62 = .ok (.goto (-28), 3) := by decide +kernel
theorem dX8_restore_65 : decode cX8_restore 65 = .ok (.aload_n 0, 1) := by decide +kernel
theorem dX8_restore_66 : decode cX8_restore 66 = .ok (.aload_n 0, 1) := by decide +kernel
theorem dX8_restore_67 : decode cX8_restore 67 = .ok (.getfield 17, 3) := by decide +kernel
theorem dX8_restore_70 : decode cX8_restore 70 = .ok (.bipush 6, 2) := by decide +kernel
theorem dX8_restore_72 : decode cX8_restore 72 = .ok (.iaload, 1) := by decide +kernel
theorem dX8_restore_73 : decode cX8_restore 73 = .ok (.invokevirtual 73, 3) := by decide +kernel
theorem dX8_restore_76 : decode cX8_restore 76 = .ok (.ireturn, 1) := by decide +kernel
theorem dX8_bitsFor_0 : decode cX8_bitsFor 0 = .ok (.iconst 1, 1) := by decide +kernel
theorem dX8_bitsFor_1 : decode cX8_bitsFor 1 = .ok (.istore_n 1, 1) := by decide +kernel
theorem dX8_bitsFor_2 : decode cX8_bitsFor 2 = .ok (.iconst 1, 1) := by decide +kernel
theorem dX8_bitsFor_3 : decode cX8_bitsFor 3 = .ok (.iload_n 1, 1) := by decide +kernel
theorem dX8_bitsFor_4 : decode cX8_bitsFor 4 = .ok (.ishl, 1) := by decide +kernel
theorem dX8_bitsFor_5 : decode cX8_bitsFor 5 = .ok (.iload_n 0, 1) := by decide +kernel
theorem dX8_bitsFor_6 : decode cX8_bitsFor 6 = .ok (.if_icmp .ge 9, 3) := by decide +kernel
theorem dX8_bitsFor_9 : decode cX8_bitsFor 9 = .ok (.iinc 1 1, 3) := by decide +kernel
theorem dX8_bitsFor_12 : decode cX8_bitsFor 12 = .ok (.goto (-10), 3) := by decide +kernel
theorem dX8_bitsFor_15 : decode cX8_bitsFor 15 = .ok (.iload_n 1, 1) := by decide +kernel
theorem dX8_bitsFor_16 : decode cX8_bitsFor 16 = .ok (.ireturn, 1) := by decide +kernel
theorem dX8_mostCodes_0 : decode cX8_mostCodes 0 = .ok (.iconst 1, 1) := by decide +kernel
theorem dX8_mostCodes_1 : decode cX8_mostCodes 1 = .ok (.aload_n 0, 1) := by decide +kernel
theorem dX8_mostCodes_2 : decode cX8_mostCodes 2 = .ok (.getfield 17, 3) := by decide +kernel
theorem dX8_mostCodes_5 : decode cX8_mostCodes 5 = .ok (.iconst 1, 1) := by decide +kernel
theorem dX8_mostCodes_6 : decode cX8_mostCodes 6 = .ok (.iaload, 1) := by decide +kernel
theorem dX8_mostCodes_7 : decode cX8_mostCodes 7 = .ok (.ishl, 1) := by decide +kernel
theorem dX8_mostCodes_8 : decode cX8_mostCodes 8 = .ok (.ireturn, 1) := by decide +kernel
set_option maxRecDepth 20000 in
theorem ggX8_isAllFull_X8_mostCodes : GoodIn wsX8_isAllFull wsX8_mostCodes := goodIn_r _ [6, 1, 7, 8, 9, 10, 11, 12, 13, 14, 15, 16, 17, 18, 19, 20, 21, 22, 23, 24, 25, 26, 27, 28, 29, 30, 31, 32, 33] (by decide +kernel) (by decide +kernel)
set_option maxRecDepth 20000 in
theorem gX8_isAllFull_X8_mostCodes : GoodIn wsX8_isAllFull (wsV RX8 76 RX8 yX8_mostCodes wsX8_mostCodes) := goodIn_app (goodIn_of _ (by decide +kernel)) ggX8_isAllFull_X8_mostCodes
theorem dX8_isAllFull_0 : decode cX8_isAllFull 0 = .ok (.aload_n 0, 1) := by decide +kernel
theorem dX8_isAllFull_1 : decode cX8_isAllFull 1 = .ok (.getfield 17, 3) := by decide +kernel
theorem dX8_isAllFull_4 : decode cX8_isAllFull 4 = .ok (.iconst 4, 1) := by decide +kernel
theorem dX8_isAllFull_5 : decode cX8_isAllFull 5 = .ok (.iaload, 1) := by decide +kernel
theorem dX8_isAllFull_6 : decode cX8_isAllFull 6 = .ok (.aload_n 0, 1) := by decide +kernel
theorem dX8_isAllFull_7 : decode cX8_isAllFull 7 = .ok (.invokevirtual 76, 3) := by decide +kernel
theorem dX8_isAllFull_10 : decode cX8_isAllFull 10 = .ok (.if_icmp .ne 7, 3) := by decide +kernel
theorem dX8_isAllFull_13 : decode cX8_isAllFull 13 = .ok (.iconst 1, 1) := by decide +kernel
theorem dX8_isAllFull_14 : decode cX8_isAllFull 14 = .ok (.goto 4, 3) := by decide +kernel
theorem dX8_isAllFull_17 : decode cX8_isAllFull 17 = .ok (.iconst 0, 1) := by decide +kernel
theorem dX8_isAllFull_18 : decode cX8_isAllFull 18 = .ok (.ireturn, 1) := by decide +kernel
set_option maxRecDepth 20000 in
theorem ggX8_isSymbol_X8_in : GoodIn wsX8_isSymbol wsX8_in := goodIn_r _ [5] (by decide +kernel) (by decide +kernel)
set_option maxRecDepth 20000 in
theorem gX8_isSymbol_X8_in : GoodIn wsX8_isSymbol (va_wsS RX8 62 yX8_in wsX8_in) := goodIn_app (goodIn_of _ (by decide +kernel)) ggX8_isSymbol_X8_in
theorem dX8_isSymbol_0 : decode cX8_isSymbol 0 = .ok (.iload_n 1, 1) := by decide +kernel
theorem dX8_isSymbol_1 : decode cX8_isSymbol 1 = .ok (.iconst 0, 1) := by decide +kernel
theorem dX8_isSymbol_2 : decode cX8_isSymbol 2 = .ok (.aload_n 0, 1) := by decide +kernel
theorem dX8_isSymbol_3 : decode cX8_isSymbol 3 = .ok (.getfield 17, 3) := by decide +kernel
theorem dX8_isSymbol_6 : decode cX8_isSymbol 6 = .ok (.iconst 0, 1) := by decide +kernel
theorem dX8_isSymbol_7 : decode cX8_isSymbol 7 = .ok (.iaload, 1) := by decide +kernel
theorem dX8_isSymbol_8 : decode cX8_isSymbol 8 = .ok (.iconst 1, 1) := by decide +kernel
theorem dX8_isSymbol_9 : decode cX8_isSymbol 9 = .ok (.isub, 1) := by decide +kernel
theorem dX8_isSymbol_10 : decode cX8_isSymbol 10 = .ok (.invokestatic 62, 3) := by decide +kernel
theorem dX8_isSymbol_13 : decode cX8_isSymbol 13 = .ok (.ireturn, 1) := by decide +kernel
set_option maxRecDepth 20000 in
theorem ggX8_isCode_X8_in : GoodIn wsX8_isCode wsX8_in := goodIn_r _ [5] (by decide +kernel) (by decide +kernel)
set_option maxRecDepth 20000 in
theorem gX8_isCode_X8_in : GoodIn wsX8_isCode (va_wsS RX8 62 yX8_in wsX8_in) := goodIn_app (goodIn_of _ (by decide +kernel)) ggX8_isCode_X8_in
theorem dX8_isCode_0 : decode cX8_isCode 0 = .ok (.iload_n 1, 1) := by decide +kernel
theorem dX8_isCode_1 : decode cX8_isCode 1 = .ok (.iconst 0, 1) := by decide +kernel
theorem dX8_isCode_2 : decode cX8_isCode 2 = .ok (.aload_n 0, 1) := by decide +kernel
theorem dX8_isCode_3 : decode cX8_isCode 3 = .ok (.getfield 17, 3) := by decide +kernel
theorem dX8_isCode_6 : decode cX8_isCode 6 = .ok (.iconst 4, 1) := by decide +kernel
theorem dX8_isCode_7 : decode cX8_isCode 7 = .ok (.iaload, 1) := by decide +kernel
theorem dX8_isCode_8 : decode cX8_isCode 8 = .ok (.iconst 1, 1) := by decide +kernel
theorem dX8_isCode_9 : decode cX8_isCode 9 = .ok (.isub, 1) := by decide +kernel
theorem dX8_isCode_10 : decode cX8_isCode 10 = .ok (.invokestatic 62, 3) := by decide +kernel
theorem dX8_isCode_13 : decode cX8_isCode 13 = .ok (.ireturn, 1) := by decide +kernel
theorem dX8_clear_0 : decode cX8_clear 0 = .ok (.aload_n 0, 1) := by decide +kernel
theorem dX8_clear_1 : decode cX8_clear 1 = .ok (.getfield 17, 3) := by decide +kernel
theorem dX8_clear_4 : decode cX8_clear 4 = .ok (.iconst 0, 1) := by decide +kernel
theorem dX8_clear_5 : decode cX8_clear 5 = .ok (.iaload, 1) := by decide +kernel
theorem dX8_clear_6 : decode cX8_clear 6 = .ok (.ireturn, 1) := by decide +kernel
theorem dX8_clearsAll_0 : decode cX8_clearsAll 0 = .ok (.aload_n 0, 1) := by decide +kernel
theorem dX8_clearsAll_1 : decode cX8_clearsAll 1 = .ok (.getfield 17, 3) := by decide +kernel
theorem dX8_clearsAll_4 : decode cX8_clearsAll 4 = .ok (.iconst 4, 1) := by decide +kernel
theorem dX8_clearsAll_5 : decode cX8_clearsAll 5 = .ok (.aload_n 0, 1) := by decide +kernel
theorem dX8_clearsAll_6 : decode cX8_clearsAll 6 = .ok (.getfield 17, 3) := by decide +kernel
theorem dX8_clearsAll_9 : decode cX8_clearsAll 9 = .ok (.iconst 0, 1) := by decide +kernel
theorem dX8_clearsAll_10 : decode cX8_clearsAll 10 = .ok (.iaload, 1) := by decide +kernel
theorem dX8_clearsAll_11 : decode cX8_clearsAll 11 = .ok (.iconst 1, 1) := by decide +kernel
theorem dX8_clearsAll_12 : decode cX8_clearsAll 12 = .ok (.iadd, 1) := by decide +kernel
theorem dX8_clearsAll_13 : decode cX8_clearsAll 13 = .ok (.iastore, 1) := by decide +kernel
theorem dX8_clearsAll_14 : decode cX8_clearsAll 14 = .ok (.aload_n 0, 1) := by decide +kernel
theorem dX8_clearsAll_15 : decode cX8_clearsAll 15 = .ok (.getfield 17, 3) := by decide +kernel
theorem dX8_clearsAll_18 : decode cX8_clearsAll 18 = .ok (.bipush 9, 2) := by decide +kernel
theorem dX8_clearsAll_20 : decode cX8_clearsAll 20 = .ok (.aload_n 0, 1) := by decide +kernel
theorem dX8_clearsAll_21 : decode cX8_clearsAll 21 = .ok (.getfield 17, 3) := by decide +kernel
theorem dX8_clearsAll_24 : decode cX8_clearsAll 24 = .ok (.bipush 7, 2) := by decide +kernel
theorem dX8_clearsAll_26 : decode cX8_clearsAll 26 = .ok (.iaload, 1) := by decide +kernel
theorem dX8_clearsAll_27 : decode cX8_clearsAll 27 = .ok (.iastore, 1) := by decide +kernel
theorem dX8_clearsAll_28 : decode cX8_clearsAll 28 = .ok (.return_, 1) := by decide +kernel
set_option maxRecDepth 20000 in
theorem ggX8_isFirst_X8_clear : GoodIn wsX8_isFirst wsX8_clear := goodIn_r _ [5, 6, 7, 8, 9, 10, 11, 12, 13, 14, 15, 16, 17, 18, 19, 20, 21, 22, 23, 24, 25, 26, 27, 28, 29, 30, 31, 32, 33] (by decide +kernel) (by decide +kernel)
set_option maxRecDepth 20000 in
theorem gX8_isFirst_X8_clear : GoodIn wsX8_isFirst (wsV RX8 80 RX8 yX8_clear wsX8_clear) := goodIn_app (goodIn_of _ (by decide +kernel)) ggX8_isFirst_X8_clear
theorem dX8_isFirst_0 : decode cX8_isFirst 0 = .ok (.iload_n 1, 1) := by decide +kernel
theorem dX8_isFirst_1 : decode cX8_isFirst 1 = .ok (.aload_n 0, 1) := by decide +kernel
theorem dX8_isFirst_2 : decode cX8_isFirst 2 = .ok (.invokevirtual 80, 3) := by decide +kernel
theorem dX8_isFirst_5 : decode cX8_isFirst 5 = .ok (.if_icmp .gt 7, 3) := by decide +kernel
theorem dX8_isFirst_8 : decode cX8_isFirst 8 = .ok (.iconst 1, 1) := by decide +kernel
theorem dX8_isFirst_9 : decode cX8_isFirst 9 = .ok (.goto 4, 3) := by decide +kernel
theorem dX8_isFirst_12 : decode cX8_isFirst 12 = .ok (.iconst 0, 1) := by decide +kernel
theorem dX8_isFirst_13 : decode cX8_isFirst 13 = .ok (.ireturn, 1) := by decide +kernel
set_option maxRecDepth 20000 in
theorem ggX8_lengthOf_X8_clear : GoodIn wsX8_lengthOf wsX8_clear := goodIn_r _ [6, 1, 11, 12, 13, 14, 15, 16, 17, 18, 19, 20, 21, 22, 23, 24, 25, 26, 27, 28, 29, 30, 31, 32, 33, 34, 35, 36, 37] (by decide +kernel) (by decide +kernel)
set_option maxRecDepth 20000 in
theorem gX8_lengthOf_X8_clear : GoodIn wsX8_lengthOf (wsV RX8 80 RX8 yX8_clear wsX8_clear) := goodIn_app (goodIn_of _ (by decide +kernel)) ggX8_lengthOf_X8_clear
set_option maxRecDepth 20000 in
theorem ggX8_lengthOf_X8_isFirst : GoodIn wsX8_lengthOf wsX8_isFirst := goodIn_r _ [10, 2, 3, 4, 5, 6, 1, 11, 12, 13, 14, 15, 16, 17, 18, 19, 20, 21, 22, 23, 24, 25, 26, 27, 28, 29, 30, 31, 32, 33, 34, 35, 36, 37] (by decide +kernel) (by decide +kernel)
set_option maxRecDepth 20000 in
theorem gX8_lengthOf_X8_isFirst : GoodIn wsX8_lengthOf (wsV RX8 83 RX8 yX8_isFirst wsX8_isFirst) := goodIn_app (goodIn_of _ (by decide +kernel)) ggX8_lengthOf_X8_isFirst
theorem dX8_lengthOf_0 : decode cX8_lengthOf 0 = .ok (.iload_n 1, 1) := by decide +kernel
theorem dX8_lengthOf_1 : decode cX8_lengthOf 1 = .ok (.aload_n 0, 1) := by decide +kernel
theorem dX8_lengthOf_2 : decode cX8_lengthOf 2 = .ok (.invokevirtual 80, 3) := by decide +kernel
theorem dX8_lengthOf_5 : decode cX8_lengthOf 5 = .ok (.if_icmp .ne 5, 3) := by decide +kernel
theorem dX8_lengthOf_8 : decode cX8_lengthOf 8 = .ok (.iconst 0, 1) := by decide +kernel
theorem dX8_lengthOf_9 : decode cX8_lengthOf 9 = .ok (.ireturn, 1) := by decide +kernel
theorem dX8_lengthOf_10 : decode cX8_lengthOf 10 = .ok (.iconst 1, 1) := by decide +kernel
theorem dX8_lengthOf_11 : decode cX8_lengthOf 11 = .ok (.istore_n 2, 1) := by decide +kernel
theorem dX8_lengthOf_12 : decode cX8_lengthOf 12 = .ok (.iload_n 1, 1) := by decide +kernel
theorem dX8_lengthOf_13 : decode cX8_lengthOf 13 = .ok (.istore_n 3, 1) := by decide +kernel
theorem dX8_lengthOf_14 : decode cX8_lengthOf 14 = .ok (.aload_n 0, 1) := by decide +kernel
theorem dX8_lengthOf_15 : decode cX8_lengthOf 15 = .ok (.iload_n 3, 1) := by decide +kernel
theorem dX8_lengthOf_16 : decode cX8_lengthOf 16 = .ok (.invokevirtual 83, 3) := by decide +kernel
theorem dX8_lengthOf_19 : decode cX8_lengthOf 19 = .ok (.ifCond .ne 19, 3) := by decide +kernel
theorem dX8_lengthOf_22 : decode cX8_lengthOf 22 = .ok (.iinc 2 1, 3) := by decide +kernel
theorem dX8_lengthOf_25 : decode cX8_lengthOf 25 = .ok (.aload_n 0, 1) := by decide +kernel
theorem dX8_lengthOf_26 : decode cX8_lengthOf 26 = .ok (.getfield 17, 3) := by decide +kernel
theorem dX8_lengthOf_29 : decode cX8_lengthOf 29 = .ok (.bipush 14, 2) := by decide +kernel
theorem dX8_lengthOf_31 : decode cX8_lengthOf 31 = .ok (.iload_n 3, 1) := by decide +kernel
theorem dX8_lengthOf_32 : decode cX8_lengthOf 32 = .ok (.iadd, 1) := by decide +kernel
theorem dX8_lengthOf_33 : decode cX8_lengthOf 33 = .ok (.iaload, 1) := by decide +kernel
theorem dX8_lengthOf_34 : decode cX8_lengthOf 34 = .ok (.istore_n 3, 1) := by decide +kernel
theorem dX8_lengthOf_35 : decode cX8_lengthOf 35 = .ok (.goto (-21), 3) := by decide +kernel
theorem dX8_lengthOf_38 : decode cX8_lengthOf 38 = .ok (.iload_n 2, 1) := by decide +kernel
theorem dX8_lengthOf_39 : decode cX8_lengthOf 39 = .ok (.ireturn, 1) := by decide +kernel
set_option maxRecDepth 20000 in
theorem ggX8_symbolOf_X8_lengthOf : GoodIn wsX8_symbolOf wsX8_lengthOf := goodIn_r _ [6, 1, 7, 8, 9, 5, 10, 11, 12, 13, 14, 15, 16, 17, 18, 19, 20, 21, 22, 23, 24, 25, 26, 27, 28, 29, 30, 31, 32, 33, 34, 35, 36, 37, 38, 39, 40, 41] (by decide +kernel) (by decide +kernel)
set_option maxRecDepth 20000 in
theorem gX8_symbolOf_X8_lengthOf : GoodIn wsX8_symbolOf (wsV RX8 86 RX8 yX8_lengthOf wsX8_lengthOf) := goodIn_app (goodIn_of _ (by decide +kernel)) ggX8_symbolOf_X8_lengthOf
set_option maxRecDepth 20000 in
theorem ggX8_symbolOf_X8_isFirst : GoodIn wsX8_symbolOf wsX8_isFirst := goodIn_r _ [14, 7, 8, 9, 5, 10, 1, 15, 16, 17, 18, 19, 20, 21, 22, 23, 24, 25, 26, 27, 28, 29, 30, 31, 32, 33, 34, 35, 36, 37, 38, 39, 40, 41] (by decide +kernel) (by decide +kernel)
set_option maxRecDepth 20000 in
theorem gX8_symbolOf_X8_isFirst : GoodIn wsX8_symbolOf (wsV RX8 83 RX8 yX8_isFirst wsX8_isFirst) := goodIn_app (goodIn_of _ (by decide +kernel)) ggX8_symbolOf_X8_isFirst
theorem dX8_symbolOf_0 : decode cX8_symbolOf 0 = .ok (.iload_n 1, 1) := by decide +kernel
theorem dX8_symbolOf_1 : decode cX8_symbolOf 1 = .ok (.istore_n 3, 1) := by decide +kernel
theorem dX8_symbolOf_2 : decode cX8_symbolOf 2 = .ok (.aload_n 0, 1) := by decide +kernel
theorem dX8_symbolOf_3 : decode cX8_symbolOf 3 = .ok (.iload_n 1, 1) := by decide +kernel
theorem dX8_symbolOf_4 : decode cX8_symbolOf 4 = .ok (.invokevirtual 86, 3) := by decide +kernel
theorem dX8_symbolOf_7 : decode cX8_symbolOf 7 = .ok (.iconst 1, 1) := by decide +kernel
theorem dX8_symbolOf_8 : decode cX8_symbolOf 8 = .ok (.isub, 1) := by decide +kernel
theorem dX8_symbolOf_9 : decode cX8_symbolOf 9 = .ok (.iload_n 2, 1) := by decide +kernel
theorem dX8_symbolOf_10 : decode cX8_symbolOf 10 = .ok (.isub, 1) := by decide +kernel
theorem dX8_symbolOf_11 : decode cX8_symbolOf 11 = .ok (.istore 4, 2) := by decide +kernel
theorem dX8_symbolOf_13 : decode cX8_symbolOf 13 = .ok (.iload 4, 2) := by decide +kernel
theorem dX8_symbolOf_15 : decode cX8_symbolOf 15 = .ok (.ifCond .le 19, 3) := by decide +kernel
theorem dX8_symbolOf_18 : decode cX8_symbolOf 18 = .ok (.aload_n 0, 1) := by decide +kernel
theorem dX8_symbolOf_19 : decode cX8_symbolOf 19 = .ok (.getfield 17, 3) := by decide +kernel
theorem dX8_symbolOf_22 : decode cX8_symbolOf 22 = .ok (.bipush 14, 2) := by decide +kernel
theorem dX8_symbolOf_24 : decode cX8_symbolOf 24 = .ok (.iload_n 3, 1) := by decide +kernel
theorem dX8_symbolOf_25 : decode cX8_symbolOf 25 = .ok (.iadd, 1) := by decide +kernel
theorem dX8_symbolOf_26 : decode cX8_symbolOf 26 = .ok (.iaload, 1) := by decide +kernel
theorem dX8_symbolOf_27 : decode cX8_symbolOf 27 = .ok (.istore_n 3, 1) := by decide +kernel
theorem dX8_symbolOf_28 : decode cX8_symbolOf 28 = .ok (.iinc 4 (-1), 3) := by decide +kernel
theorem dX8_symbolOf_31 : decode cX8_symbolOf 31 = .ok (.goto (-18), 3) := by decide +kernel
theorem dX8_symbolOf_34 : decode cX8_symbolOf 34 = .ok (.aload_n 0, 1) := by decide +kernel
theorem dX8_symbolOf_35 : decode cX8_symbolOf 35 = .ok (.iload_n 3, 1) := by decide +kernel
theorem dX8_symbolOf_36 : decode cX8_symbolOf 36 = .ok (.invokevirtual 83, 3) := by decide +kernel
theorem dX8_symbolOf_39 : decode cX8_symbolOf 39 = .ok (.ifCond .eq 7, 3) := by decide +kernel
theorem dX8_symbolOf_42 : decode cX8_symbolOf 42 = .ok (.iload_n 3, 1) := by decide +kernel
theorem dX8_symbolOf_43 : decode cX8_symbolOf 43 = .ok (.goto 13, 3) := by decide +kernel
theorem dX8_symbolOf_46 : decode cX8_symbolOf 46 = .ok (.aload_n 0, 1) := by decide +kernel
theorem dX8_symbolOf_47 : decode cX8_symbolOf 47 = .ok (.getfield 17, 3) := by decide +kernel
theorem dX8_symbolOf_50 : decode cX8_symbolOf 50 = .ok (.sipush 270, 3) := by decide +kernel
theorem dX8_symbolOf_53 : decode cX8_symbolOf 53 = .ok (.iload_n 3, 1) := by decide +kernel
theorem dX8_symbolOf_54 : decode cX8_symbolOf 54 = .ok (.iadd, 1) := by decide +kernel
theorem dX8_symbolOf_55 : decode cX8_symbolOf 55 = .ok (.iaload, 1) := by decide +kernel
theorem dX8_symbolOf_56 : decode cX8_symbolOf 56 = .ok (.ireturn, 1) := by decide +kernel
set_option maxRecDepth 20000 in
theorem ggX8_longer_X8_clear : GoodIn wsX8_longer wsX8_clear := goodIn_r _ [6, 1, 7, 8, 9, 10, 11, 12, 13, 14, 15, 16, 17, 18, 19, 20, 21, 22, 23, 24, 25, 26, 27, 28, 29, 30, 31, 32, 33] (by decide +kernel) (by decide +kernel)
set_option maxRecDepth 20000 in
theorem gX8_longer_X8_clear : GoodIn wsX8_longer (wsV RX8 80 RX8 yX8_clear wsX8_clear) := goodIn_app (goodIn_of _ (by decide +kernel)) ggX8_longer_X8_clear
theorem dX8_longer_0 : decode cX8_longer 0 = .ok (.aload_n 0, 1) := by decide +kernel
theorem dX8_longer_1 : decode cX8_longer 1 = .ok (.invokevirtual 80, 3) := by decide +kernel
theorem dX8_longer_4 : decode cX8_longer 4 = .ok (.iconst 1, 1) := by decide +kernel
theorem dX8_longer_5 : decode cX8_longer 5 = .ok (.iadd, 1) := by decide +kernel
theorem dX8_longer_6 : decode cX8_longer 6 = .ok (.istore_n 3, 1) := by decide +kernel
theorem dX8_longer_7 : decode cX8_longer 7 = .ok (.iload_n 3, 1) := by decide +kernel
theorem dX8_longer_8 : decode cX8_longer 8 = .ok (.aload_n 0, 1) := by decide +kernel
theorem dX8_longer_9 : decode cX8_longer 9 = .ok (.getfield 17, 3) := by decide +kernel
theorem dX8_longer_12 : decode cX8_longer 12 = .ok (.iconst 4, 1) := by decide +kernel
theorem dX8_longer_13 : decode cX8_longer 13 = .ok (.iaload, 1) := by decide +kernel
theorem dX8_longer_14 : decode cX8_longer 14 = .ok (.if_icmp .ge 38, 3) := by decide +kernel
theorem dX8_longer_17 : decode cX8_longer 17 = .ok (.aload_n 0, 1) := by decide +kernel
theorem dX8_longer_18 : decode cX8_longer 18 = .ok (.getfield 17, 3) := by decide +kernel
theorem dX8_longer_21 : decode cX8_longer 21 = .ok (.bipush 14, 2) := by decide +kernel
theorem dX8_longer_23 : decode cX8_longer 23 = .ok (.iload_n 3, 1) := by decide +kernel
theorem dX8_longer_24 : decode cX8_longer 24 = .ok (.iadd, 1) := by decide +kernel
theorem dX8_longer_25 : decode cX8_longer 25 = .ok (.iaload, 1) := by decide +kernel
theorem dX8_longer_26 : decode cX8_longer 26 = .ok (.iload_n 1, 1) := by decide +kernel
theorem dX8_longer_27 : decode cX8_longer 27 = .ok (.if_icmp .ne 19, 3) := by decide +kernel
theorem dX8_longer_30 : decode cX8_longer 30 = .ok (.aload_n 0, 1) := by decide +kernel
theorem dX8_longer_31 : decode cX8_longer 31 = .ok (.getfield 17, 3) := by decide +kernel
theorem dX8_longer_34 : decode cX8_longer 34 = .ok (.sipush 270, 3) := by decide +kernel
theorem dX8_longer_37 : decode cX8_longer 37 = .ok (.iload_n 3, 1) := by decide +kernel
theorem dX8_longer_38 : decode cX8_longer 38 = .ok (.iadd, 1) := by decide +kernel
theorem dX8_longer_39 : decode cX8_longer 39 = .ok (.iaload, 1) := by decide +kernel
theorem dX8_longer_40 : decode cX8_longer 40 = .ok (.iload_n 2, 1) := by decide +kernel
theorem dX8_longer_41 : decode cX8_longer 41 = .ok (.if_icmp .ne 5, 3) := by decide +kernel
theorem dX8_longer_44 : decode cX8_longer 44 = .ok (.iload_n 3, 1) := by decide +kernel
theorem dX8_longer_45 : decode cX8_longer 45 = .ok (.ireturn, 1) := by decide +kernel
theorem dX8_longer_46 : decode cX8_longer 46 = .ok (.iinc 3 1, 3) := by decide +kernel
theorem dX8_longer_49 : decode cX8_longer 49 = .ok (.goto (-42), 3) := by decide +kernel
theorem dX8_longer_52 : decode cX8_longer 52 = .ok (.iconst (-1), 1) := by decide +kernel
theorem dX8_longer_53 : decode cX8_longer 53 = .ok (.ireturn, 1) := by decide +kernel
theorem dX8_learns_0 : decode cX8_learns 0 = .ok (.aload_n 0, 1) := by decide +kernel
theorem dX8_learns_1 : decode cX8_learns 1 = .ok (.getfield 17, 3) := by decide +kernel
theorem dX8_learns_4 : decode cX8_learns 4 = .ok (.iconst 4, 1) := by decide +kernel
theorem dX8_learns_5 : decode cX8_learns 5 = .ok (.iaload, 1) := by decide +kernel
theorem dX8_learns_6 : decode cX8_learns 6 = .ok (.istore_n 3, 1) := by decide +kernel
theorem dX8_learns_7 : decode cX8_learns 7 = .ok (.aload_n 0, 1) := by decide +kernel
theorem dX8_learns_8 : decode cX8_learns 8 = .ok (.getfield 17, 3) := by decide +kernel
theorem dX8_learns_11 : decode cX8_learns 11 = .ok (.bipush 14, 2) := by decide +kernel
theorem dX8_learns_13 : decode cX8_learns 13 = .ok (.iload_n 3, 1) := by decide +kernel
theorem dX8_learns_14 : decode cX8_learns 14 = .ok (.iadd, 1) := by decide +kernel
theorem dX8_learns_15 : decode cX8_learns 15 = .ok (.iload_n 1, 1) := by decide +kernel
theorem dX8_learns_16 : decode cX8_learns 16 = .ok (.iastore, 1) := by decide +kernel
theorem dX8_learns_17 : decode cX8_learns 17 = .ok (.aload_n 0, 1) := by decide +kernel
theorem dX8_learns_18 : decode cX8_learns 18 = .ok (.getfield 17, 3) := by decide +kernel
theorem dX8_learns_21 : decode cX8_learns 21 = .ok (.sipush 270, 3) := by decide +kernel
theorem dX8_learns_24 : decode cX8_learns 24 = .ok (.iload_n 3, 1) := by decide +kernel
theorem dX8_learns_25 : decode cX8_learns 25 = .ok (.iadd, 1) := by decide +kernel
theorem dX8_learns_26 : decode cX8_learns 26 = .ok (.iload_n 2, 1) := by decide +kernel
theorem dX8_learns_27 : decode cX8_learns 27 = .ok (.iastore, 1) := by decide +kernel
theorem dX8_learns_28 : decode cX8_learns 28 = .ok (.aload_n 0, 1) := by decide +kernel
theorem dX8_learns_29 : decode cX8_learns 29 = .ok (.getfield 17, 3) := by decide +kernel
theorem dX8_learns_32 : decode cX8_learns 32 = .ok (.iconst 4, 1) := by decide +kernel
theorem dX8_learns_33 : decode cX8_learns 33 = .ok (.dup2, 1) := by decide +kernel
theorem dX8_learns_34 : decode cX8_learns 34 = .ok (.iaload, 1) := by decide +kernel
theorem dX8_learns_35 : decode cX8_learns 35 = .ok (.iconst 1, 1) := by decide +kernel
theorem dX8_learns_36 : decode cX8_learns 36 = .ok (.iadd, 1) := by decide +kernel
theorem dX8_learns_37 : decode cX8_learns 37 = .ok (.iastore, 1) := by decide +kernel
theorem dX8_learns_38 : decode cX8_learns 38 = .ok (.return_, 1) := by decide +kernel
set_option maxRecDepth 20000 in
theorem ggX8_writes_X8_bitsFor : GoodIn wsX8_writes wsX8_bitsFor := goodIn_r _ [5] (by decide +kernel) (by decide +kernel)
set_option maxRecDepth 20000 in
theorem gX8_writes_X8_bitsFor : GoodIn wsX8_writes (va_wsS RX8 89 yX8_bitsFor wsX8_bitsFor) := goodIn_app (goodIn_of _ (by decide +kernel)) ggX8_writes_X8_bitsFor
set_option maxRecDepth 20000 in
theorem ggX8_writes_X8_lengthOf : GoodIn wsX8_writes wsX8_lengthOf := goodIn_r _ [9, 1, 10, 11, 12, 4, 13, 14, 15, 16, 17, 18, 19, 20, 21, 22, 23, 24, 25, 26, 27, 28, 29, 30, 31, 32, 33, 34, 35, 36, 37, 38, 39, 40, 41, 42, 43, 44] (by decide +kernel) (by decide +kernel)
set_option maxRecDepth 20000 in
theorem gX8_writes_X8_lengthOf : GoodIn wsX8_writes (wsV RX8 86 RX8 yX8_lengthOf wsX8_lengthOf) := goodIn_app (goodIn_of _ (by decide +kernel)) ggX8_writes_X8_lengthOf
theorem dX8_writes_0 : decode cX8_writes 0 = .ok (.aload_n 0, 1) := by decide +kernel
theorem dX8_writes_1 : decode cX8_writes 1 = .ok (.getfield 17, 3) := by decide +kernel
theorem dX8_writes_4 : decode cX8_writes 4 = .ok (.iconst 4, 1) := by decide +kernel
theorem dX8_writes_5 : decode cX8_writes 5 = .ok (.iaload, 1) := by decide +kernel
theorem dX8_writes_6 : decode cX8_writes 6 = .ok (.invokestatic 89, 3) := by decide +kernel
theorem dX8_writes_9 : decode cX8_writes 9 = .ok (.istore_n 2, 1) := by decide +kernel
theorem dX8_writes_10 : decode cX8_writes 10 = .ok (.aload_n 0, 1) := by decide +kernel
theorem dX8_writes_11 : decode cX8_writes 11 = .ok (.getfield 17, 3) := by decide +kernel
theorem dX8_writes_14 : decode cX8_writes 14 = .ok (.sipush 926, 3) := by decide +kernel
theorem dX8_writes_17 : decode cX8_writes 17 = .ok (.aload_n 0, 1) := by decide +kernel
theorem dX8_writes_18 : decode cX8_writes 18 = .ok (.getfield 17, 3) := by decide +kernel
theorem dX8_writes_21 : decode cX8_writes 21 = .ok (.bipush 7, 2) := by decide +kernel
theorem dX8_writes_23 : decode cX8_writes 23 = .ok (.iaload, 1) := by decide +kernel
theorem dX8_writes_24 : decode cX8_writes 24 = .ok (.iadd, 1) := by decide +kernel
theorem dX8_writes_25 : decode cX8_writes 25 = .ok (.bipush 16, 2) := by decide +kernel
theorem dX8_writes_27 : decode cX8_writes 27 = .ok (.iload_n 1, 1) := by decide +kernel
theorem dX8_writes_28 : decode cX8_writes 28 = .ok (.imul, 1) := by decide +kernel
theorem dX8_writes_29 : decode cX8_writes 29 = .ok (.iload_n 2, 1) := by decide +kernel
theorem dX8_writes_30 : decode cX8_writes 30 = .ok (.iadd, 1) := by decide +kernel
theorem dX8_writes_31 : decode cX8_writes 31 = .ok (.iastore, 1) := by decide +kernel
theorem dX8_writes_32 : decode cX8_writes 32 = .ok (.aload_n 0, 1) := by decide +kernel
theorem dX8_writes_33 : decode cX8_writes 33 = .ok (.getfield 17, 3) := by decide +kernel
theorem dX8_writes_36 : decode cX8_writes 36 = .ok (.bipush 7, 2) := by decide +kernel
theorem dX8_writes_38 : decode cX8_writes 38 = .ok (.dup2, 1) := by decide +kernel
theorem dX8_writes_39 : decode cX8_writes 39 = .ok (.iaload, 1) := by decide +kernel
theorem dX8_writes_40 : decode cX8_writes 40 = .ok (.iconst 1, 1) := by decide +kernel
theorem dX8_writes_41 : decode cX8_writes 41 = .ok (.iadd, 1) := by decide +kernel
theorem dX8_writes_42 : decode cX8_writes 42 = .ok (.iastore, 1) := by decide +kernel
theorem dX8_writes_43 : decode cX8_writes 43 = .ok (.aload_n 0, 1) := by decide +kernel
theorem dX8_writes_44 : decode cX8_writes 44 = .ok (.getfield 17, 3) := by decide +kernel
theorem dX8_writes_47 : decode cX8_writes 47 = .ok (.bipush 13, 2) := by decide +kernel
theorem dX8_writes_49 : decode cX8_writes 49 = .ok (.dup2, 1) := by decide +kernel
theorem dX8_writes_50 : decode cX8_writes 50 = .ok (.iaload, 1) := by decide +kernel
theorem dX8_writes_51 : decode cX8_writes 51 = .ok (.aload_n 0, 1) := by decide +kernel
theorem dX8_writes_52 : decode cX8_writes 52 = .ok (.iload_n 1, 1) := by decide +kernel
theorem dX8_writes_53 : decode cX8_writes 53 = .ok (.invokevirtual 86, 3) := by decide +kernel
theorem dX8_writes_56 : decode cX8_writes 56 = .ok (.iadd, 1) := by decide +kernel
theorem dX8_writes_57 : decode cX8_writes 57 = .ok (.iastore, 1) := by decide +kernel
theorem dX8_writes_58 : decode cX8_writes 58 = .ok (.return_, 1) := by decide +kernel
set_option maxRecDepth 20000 in
theorem ggX8_writesClear_X8_clear : GoodIn wsX8_writesClear wsX8_clear := goodIn_r _ [6, 1, 26, 27, 28, 29, 30, 31, 32, 33, 34, 35, 36, 37, 38, 39, 40, 41, 42, 43, 44, 45, 46, 47, 48, 49, 50, 51, 52] (by decide +kernel) (by decide +kernel)
set_option maxRecDepth 20000 in
theorem gX8_writesClear_X8_clear : GoodIn wsX8_writesClear (wsV RX8 80 RX8 yX8_clear wsX8_clear) := goodIn_app (goodIn_of _ (by decide +kernel)) ggX8_writesClear_X8_clear
set_option maxRecDepth 20000 in
theorem ggX8_writesClear_X8_writes : GoodIn wsX8_writesClear wsX8_writes := goodIn_r _ [10, 1, 11, 12, 5, 13, 14, 15, 16, 17, 2, 3, 4, 6, 18, 19, 20, 21, 26, 27, 28, 29, 30, 31, 32, 33, 34, 35, 36, 37, 38, 39, 40, 41, 42, 43, 44, 45, 46, 47, 48, 49, 50, 51, 52] (by decide +kernel) (by decide +kernel)
set_option maxRecDepth 20000 in
theorem gX8_writesClear_X8_writes : GoodIn wsX8_writesClear (wsV RX8 92 RX8 yX8_writes wsX8_writes) := goodIn_app (goodIn_of _ (by decide +kernel)) ggX8_writesClear_X8_writes
set_option maxRecDepth 20000 in
theorem ggX8_writesClear_X8_clearsAll : GoodIn wsX8_writesClear wsX8_clearsAll := goodIn_r _ [25, 1, 26, 27, 28, 29, 30, 31, 32, 33, 34, 35, 36, 37, 38, 39, 40, 41, 42, 43, 44, 45, 46, 47, 48, 49, 50, 51, 52] (by decide +kernel) (by decide +kernel)
set_option maxRecDepth 20000 in
theorem gX8_writesClear_X8_clearsAll : GoodIn wsX8_writesClear (wsV RX8 96 RX8 yX8_clearsAll wsX8_clearsAll) := goodIn_app (goodIn_of _ (by decide +kernel)) ggX8_writesClear_X8_clearsAll
theorem dX8_writesClear_0 : decode cX8_writesClear 0 = .ok (.aload_n 0, 1) := by decide +kernel
theorem dX8_writesClear_1 : decode cX8_writesClear 1 = .ok (.aload_n 0, 1) := by decide +kernel
theorem dX8_writesClear_2 : decode cX8_writesClear 2 = .ok (.invokevirtual 80, 3) := by decide +kernel
theorem dX8_writesClear_5 : decode cX8_writesClear 5 = .ok (.invokevirtual 92, 3) := by decide +kernel
theorem dX8_writesClear_8 : decode cX8_writesClear 8 = .ok (.aload_n 0, 1) := by decide +kernel
theorem dX8_writesClear_9 : decode cX8_writesClear 9 = .ok (.getfield 17, 3) := by decide +kernel
theorem dX8_writesClear_12 : decode cX8_writesClear 12 = .ok (.bipush 8, 2) := by decide +kernel
theorem dX8_writesClear_14 : decode cX8_writesClear 14 = .ok (.dup2, 1) := by decide +kernel
theorem dX8_writesClear_15 : decode cX8_writesClear 15 = .ok (.iaload, 1) := by decide +kernel
theorem dX8_writesClear_16 : decode cX8_writesClear 16 = .ok (.iconst 1, 1) := by decide +kernel
theorem dX8_writesClear_17 : decode cX8_writesClear 17 = .ok (.iadd, 1) := by decide +kernel
theorem dX8_writesClear_18 : decode cX8_writesClear 18 = .ok (.iastore, 1) := by decide +kernel
theorem dX8_writesClear_19 : decode cX8_writesClear 19 = .ok (.aload_n 0, 1) := by decide +kernel
theorem dX8_writesClear_20 : decode cX8_writesClear 20 = .ok (.invokevirtual 96, 3) := by decide +kernel
theorem dX8_writesClear_23 : decode cX8_writesClear 23 = .ok (.return_, 1) := by decide +kernel
set_option maxRecDepth 20000 in
theorem ggX8_plain_X8_bitsFor : GoodIn wsX8_plain wsX8_bitsFor := goodIn_r _ [5] (by decide +kernel) (by decide +kernel)
set_option maxRecDepth 20000 in
theorem gX8_plain_X8_bitsFor : GoodIn wsX8_plain (va_wsS RX8 89 yX8_bitsFor wsX8_bitsFor) := goodIn_app (goodIn_of _ (by decide +kernel)) ggX8_plain_X8_bitsFor
theorem dX8_plain_0 : decode cX8_plain 0 = .ok (.aload_n 0, 1) := by decide +kernel
theorem dX8_plain_1 : decode cX8_plain 1 = .ok (.getfield 17, 3) := by decide +kernel
theorem dX8_plain_4 : decode cX8_plain 4 = .ok (.iconst 0, 1) := by decide +kernel
theorem dX8_plain_5 : decode cX8_plain 5 = .ok (.iaload, 1) := by decide +kernel
theorem dX8_plain_6 : decode cX8_plain 6 = .ok (.invokestatic 89, 3) := by decide +kernel
theorem dX8_plain_9 : decode cX8_plain 9 = .ok (.ireturn, 1) := by decide +kernel
theorem dX8_codeAt_0 : decode cX8_codeAt 0 = .ok (.aload_n 0, 1) := by decide +kernel
theorem dX8_codeAt_1 : decode cX8_codeAt 1 = .ok (.getfield 17, 3) := by decide +kernel
theorem dX8_codeAt_4 : decode cX8_codeAt 4 = .ok (.sipush 926, 3) := by decide +kernel
theorem dX8_codeAt_7 : decode cX8_codeAt 7 = .ok (.iload_n 1, 1) := by decide +kernel
theorem dX8_codeAt_8 : decode cX8_codeAt 8 = .ok (.iadd, 1) := by decide +kernel
theorem dX8_codeAt_9 : decode cX8_codeAt 9 = .ok (.iaload, 1) := by decide +kernel
theorem dX8_codeAt_10 : decode cX8_codeAt 10 = .ok (.bipush 16, 2) := by decide +kernel
theorem dX8_codeAt_12 : decode cX8_codeAt 12 = .ok (.idiv, 1) := by decide +kernel
theorem dX8_codeAt_13 : decode cX8_codeAt 13 = .ok (.ireturn, 1) := by decide +kernel
theorem dX8_widthAt_0 : decode cX8_widthAt 0 = .ok (.aload_n 0, 1) := by decide +kernel
theorem dX8_widthAt_1 : decode cX8_widthAt 1 = .ok (.getfield 17, 3) := by decide +kernel
theorem dX8_widthAt_4 : decode cX8_widthAt 4 = .ok (.sipush 926, 3) := by decide +kernel
theorem dX8_widthAt_7 : decode cX8_widthAt 7 = .ok (.iload_n 1, 1) := by decide +kernel
theorem dX8_widthAt_8 : decode cX8_widthAt 8 = .ok (.iadd, 1) := by decide +kernel
theorem dX8_widthAt_9 : decode cX8_widthAt 9 = .ok (.iaload, 1) := by decide +kernel
theorem dX8_widthAt_10 : decode cX8_widthAt 10 = .ok (.bipush 16, 2) := by decide +kernel
theorem dX8_widthAt_12 : decode cX8_widthAt 12 = .ok (.irem, 1) := by decide +kernel
theorem dX8_widthAt_13 : decode cX8_widthAt 13 = .ok (.ireturn, 1) := by decide +kernel
set_option maxRecDepth 20000 in
theorem ggX8_symbolsSince_X8_codeAt : GoodIn wsX8_symbolsSince wsX8_codeAt := goodIn_r _ [6, 1, 19, 20, 21, 22, 23, 24, 25, 26, 27, 28, 29, 30, 31, 32, 33, 34, 35, 36, 37, 38, 39, 40, 41, 42, 43, 44, 45] (by decide +kernel) (by decide +kernel)
set_option maxRecDepth 20000 in
theorem gX8_symbolsSince_X8_codeAt : GoodIn wsX8_symbolsSince (wsV RX8 99 RX8 yX8_codeAt wsX8_codeAt) := goodIn_app (goodIn_of _ (by decide +kernel)) ggX8_symbolsSince_X8_codeAt
set_option maxRecDepth 20000 in
theorem ggX8_symbolsSince_X8_lengthOf : GoodIn wsX8_symbolsSince wsX8_lengthOf := goodIn_r _ [10, 1, 11, 12, 13, 5, 14, 15, 16, 17, 18, 19, 20, 21, 22, 23, 24, 25, 26, 27, 28, 29, 30, 31, 32, 33, 34, 35, 36, 37, 38, 39, 40, 41, 42, 43, 44, 45] (by decide +kernel) (by decide +kernel)
set_option maxRecDepth 20000 in
theorem gX8_symbolsSince_X8_lengthOf : GoodIn wsX8_symbolsSince (wsV RX8 86 RX8 yX8_lengthOf wsX8_lengthOf) := goodIn_app (goodIn_of _ (by decide +kernel)) ggX8_symbolsSince_X8_lengthOf
theorem dX8_symbolsSince_0 : decode cX8_symbolsSince 0 = .ok (.iconst 0, 1) := by decide +kernel
theorem dX8_symbolsSince_1 : decode cX8_symbolsSince 1 = .ok (.istore_n 1, 1) := by decide +kernel
theorem dX8_symbolsSince_2 : decode cX8_symbolsSince 2 = .ok (.aload_n 0, 1) := by decide +kernel
theorem dX8_symbolsSince_3 : decode cX8_symbolsSince 3 = .ok (.getfield 17, 3) := by decide +kernel
theorem dX8_symbolsSince_6 : decode cX8_symbolsSince 6 = .ok (.bipush 9, 2) := by decide +kernel
theorem dX8_symbolsSince_8 : decode cX8_symbolsSince 8 = .ok (.iaload, 1) := by decide +kernel
theorem dX8_symbolsSince_9 : decode cX8_symbolsSince 9 = .ok (.istore_n 2, 1) := by decide +kernel
theorem dX8_symbolsSince_10 : decode cX8_symbolsSince 10 = .ok (.iload_n 2, 1) := by decide +kernel
theorem dX8_symbolsSince_11 : decode cX8_symbolsSince 11 = .ok (.aload_n 0, 1) := by decide +kernel
theorem dX8_symbolsSince_12 : decode cX8_symbolsSince 12 = .ok (.getfield 17, 3) := by decide +kernel
theorem dX8_symbolsSince_15 : decode cX8_symbolsSince 15 = .ok (.bipush 7, 2) := by decide +kernel
theorem dX8_symbolsSince_17 : decode cX8_symbolsSince 17 = .ok (.iaload, 1) := by decide +kernel
theorem dX8_symbolsSince_18 : decode cX8_symbolsSince 18 = .ok (.if_icmp .ge 21, 3) := by decide +kernel
theorem dX8_symbolsSince_21 : decode cX8_symbolsSince 21 = .ok (.iload_n 1, 1) := by decide +kernel
theorem dX8_symbolsSince_22 : decode cX8_symbolsSince 22 = .ok (.aload_n 0, 1) := by decide +kernel
theorem dX8_symbolsSince_23 : decode cX8_symbolsSince 23 = .ok (.aload_n 0, 1) := by decide +kernel
theorem dX8_symbolsSince_24 : decode cX8_symbolsSince 24 = .ok (.iload_n 2, 1) := by decide +kernel
theorem dX8_symbolsSince_25 : decode cX8_symbolsSince 25 = .ok (.invokevirtual 99, 3) := by decide +kernel
theorem dX8_symbolsSince_28 : decode cX8_symbolsSince 28 = .ok (.invokevirtual 86, 3) := by decide +kernel
theorem dX8_symbolsSince_31 : decode cX8_symbolsSince 31 = .ok (.iadd, 1) := by decide +kernel
theorem dX8_symbolsSince_32 : decode cX8_symbolsSince 32 = .ok (.istore_n 1, 1) := by decide +kernel
theorem dX8_symbolsSince_33 : decode cX8_symbolsSince 33 = .ok (.iinc 2 1, 3) := by decide +kernel
theorem dX8_symbolsSince_36 : decode cX8_symbolsSince 36 = .ok (.goto (-26), 3) := by decide +kernel
theorem dX8_symbolsSince_39 : decode cX8_symbolsSince 39 = .ok (.iload_n 1, 1) := by decide +kernel
theorem dX8_symbolsSince_40 : decode cX8_symbolsSince 40 = .ok (.ireturn, 1) := by decide +kernel
set_option maxRecDepth 20000 in
theorem ggX8_bitsFrom_X8_widthAt : GoodIn wsX8_bitsFrom wsX8_widthAt := goodIn_r _ [6, 1, 7, 8, 9, 10, 11, 12, 13, 14, 15, 16, 17, 18, 19, 20, 21, 22, 23, 24, 25, 26, 27, 28, 29, 30, 31, 32, 33] (by decide +kernel) (by decide +kernel)
set_option maxRecDepth 20000 in
theorem gX8_bitsFrom_X8_widthAt : GoodIn wsX8_bitsFrom (wsV RX8 102 RX8 yX8_widthAt wsX8_widthAt) := goodIn_app (goodIn_of _ (by decide +kernel)) ggX8_bitsFrom_X8_widthAt
theorem dX8_bitsFrom_0 : decode cX8_bitsFrom 0 = .ok (.iconst 0, 1) := by decide +kernel
theorem dX8_bitsFrom_1 : decode cX8_bitsFrom 1 = .ok (.istore_n 2, 1) := by decide +kernel
theorem dX8_bitsFrom_2 : decode cX8_bitsFrom 2 = .ok (.iload_n 1, 1) := by decide +kernel
theorem dX8_bitsFrom_3 : decode cX8_bitsFrom 3 = .ok (.istore_n 3, 1) := by decide +kernel
theorem dX8_bitsFrom_4 : decode cX8_bitsFrom 4 = .ok (.iload_n 3, 1) := by decide +kernel
theorem dX8_bitsFrom_5 : decode cX8_bitsFrom 5 = .ok (.aload_n 0, 1) := by decide +kernel
theorem dX8_bitsFrom_6 : decode cX8_bitsFrom 6 = .ok (.getfield 17, 3) := by decide +kernel
theorem dX8_bitsFrom_9 : decode cX8_bitsFrom 9 = .ok (.bipush 7, 2) := by decide +kernel
theorem dX8_bitsFrom_11 : decode cX8_bitsFrom 11 = .ok (.iaload, 1) := by decide +kernel
theorem dX8_bitsFrom_12 : decode cX8_bitsFrom 12 = .ok (.if_icmp .ge 17, 3) := by decide +kernel
theorem dX8_bitsFrom_15 : decode cX8_bitsFrom 15 = .ok (.iload_n 2, 1) := by decide +kernel
theorem dX8_bitsFrom_16 : decode cX8_bitsFrom 16 = .ok (.aload_n 0, 1) := by decide +kernel
theorem dX8_bitsFrom_17 : decode cX8_bitsFrom 17 = .ok (.iload_n 3, 1) := by decide +kernel
theorem dX8_bitsFrom_18 : decode cX8_bitsFrom 18 = .ok (.invokevirtual 102, 3) := by decide +kernel
theorem dX8_bitsFrom_21 : decode cX8_bitsFrom 21 = .ok (.iadd, 1) := by decide +kernel
theorem dX8_bitsFrom_22 : decode cX8_bitsFrom 22 = .ok (.istore_n 2, 1) := by decide +kernel
theorem dX8_bitsFrom_23 : decode cX8_bitsFrom 23 = .ok (.iinc 3 1, 3) := by decide +kernel
theorem dX8_bitsFrom_26 : decode cX8_bitsFrom 26 = .ok (.goto (-22), 3) := by decide +kernel
theorem dX8_bitsFrom_29 : decode cX8_bitsFrom 29 = .ok (.iload_n 2, 1) := by decide +kernel
theorem dX8_bitsFrom_30 : decode cX8_bitsFrom 30 = .ok (.ireturn, 1) := by decide +kernel
set_option maxRecDepth 20000 in
theorem ggX8_bitsSince_X8_bitsFrom : GoodIn wsX8_bitsSince wsX8_bitsFrom := goodIn_r _ [6, 1, 7, 8, 9, 5, 10, 11, 12, 13, 14, 15, 16, 17, 18, 19, 20, 21, 22, 23, 24, 25, 26, 27, 28, 29, 30, 31, 32, 33, 34, 35, 36, 37] (by decide +kernel) (by decide +kernel)
set_option maxRecDepth 20000 in
theorem gX8_bitsSince_X8_bitsFrom : GoodIn wsX8_bitsSince (wsV RX8 105 RX8 yX8_bitsFrom wsX8_bitsFrom) := goodIn_app (goodIn_of _ (by decide +kernel)) ggX8_bitsSince_X8_bitsFrom
theorem dX8_bitsSince_0 : decode cX8_bitsSince 0 = .ok (.aload_n 0, 1) := by decide +kernel
theorem dX8_bitsSince_1 : decode cX8_bitsSince 1 = .ok (.aload_n 0, 1) := by decide +kernel
theorem dX8_bitsSince_2 : decode cX8_bitsSince 2 = .ok (.getfield 17, 3) := by decide +kernel
theorem dX8_bitsSince_5 : decode cX8_bitsSince 5 = .ok (.bipush 9, 2) := by decide +kernel
theorem dX8_bitsSince_7 : decode cX8_bitsSince 7 = .ok (.iaload, 1) := by decide +kernel
theorem dX8_bitsSince_8 : decode cX8_bitsSince 8 = .ok (.invokevirtual 105, 3) := by decide +kernel
theorem dX8_bitsSince_11 : decode cX8_bitsSince 11 = .ok (.ireturn, 1) := by decide +kernel
set_option maxRecDepth 20000 in
theorem ggX8_allBits_X8_bitsFrom : GoodIn wsX8_allBits wsX8_bitsFrom := goodIn_r _ [5, 6, 7, 8, 9, 4, 10, 11, 12, 13, 14, 15, 16, 17, 18, 19, 20, 21, 22, 23, 24, 25, 26, 27, 28, 29, 30, 31, 32, 33, 34, 35, 36, 37] (by decide +kernel) (by decide +kernel)
set_option maxRecDepth 20000 in
theorem gX8_allBits_X8_bitsFrom : GoodIn wsX8_allBits (wsV RX8 105 RX8 yX8_bitsFrom wsX8_bitsFrom) := goodIn_app (goodIn_of _ (by decide +kernel)) ggX8_allBits_X8_bitsFrom
theorem dX8_allBits_0 : decode cX8_allBits 0 = .ok (.aload_n 0, 1) := by decide +kernel
theorem dX8_allBits_1 : decode cX8_allBits 1 = .ok (.iconst 0, 1) := by decide +kernel
theorem dX8_allBits_2 : decode cX8_allBits 2 = .ok (.invokevirtual 105, 3) := by decide +kernel
theorem dX8_allBits_5 : decode cX8_allBits 5 = .ok (.ireturn, 1) := by decide +kernel
set_option maxRecDepth 20000 in
theorem ggX8_percentOf_X8_plain : GoodIn wsX8_percentOf wsX8_plain := goodIn_r _ [5, 6, 7, 8, 4, 9, 10, 11, 12, 13, 14, 15, 16, 17, 18, 19, 20, 21, 22, 23, 24, 25, 26, 27, 28, 29, 30, 31, 32, 33, 34, 35, 36] (by decide +kernel) (by decide +kernel)
set_option maxRecDepth 20000 in
theorem gX8_percentOf_X8_plain : GoodIn wsX8_percentOf (wsV RX8 108 RX8 yX8_plain wsX8_plain) := goodIn_app (goodIn_of _ (by decide +kernel)) ggX8_percentOf_X8_plain
theorem dX8_percentOf_0 : decode cX8_percentOf 0 = .ok (.iload_n 2, 1) := by decide +kernel
theorem dX8_percentOf_1 : decode cX8_percentOf 1 = .ok (.ifCond .ne 5, 3) := by decide +kernel
theorem dX8_percentOf_4 : decode cX8_percentOf 4 = .ok (.iconst 0, 1) := by decide +kernel
theorem dX8_percentOf_5 : decode cX8_percentOf 5 = .ok (.ireturn, 1) := by decide +kernel
theorem dX8_percentOf_6 : decode cX8_percentOf 6 = .ok (.bipush 100, 2) := by decide +kernel
theorem dX8_percentOf_8 : decode cX8_percentOf 8 = .ok (.iload_n 1, 1) := by decide +kernel
theorem dX8_percentOf_9 : decode cX8_percentOf 9 = .ok (.imul, 1) := by decide +kernel
theorem dX8_percentOf_10 : decode cX8_percentOf 10 = .ok (.iload_n 2, 1) := by decide +kernel
theorem dX8_percentOf_11 : decode cX8_percentOf 11 = .ok (.aload_n 0, 1) := by decide +kernel
theorem dX8_percentOf_12 : decode cX8_percentOf 12 = .ok (.invokevirtual 108, 3) := by decide +kernel
theorem dX8_percentOf_15 : decode cX8_percentOf 15 = .ok (.imul, 1) := by decide +kernel
theorem dX8_percentOf_16 : decode cX8_percentOf 16 = .ok (.idiv, 1) := by decide +kernel
theorem dX8_percentOf_17 : decode cX8_percentOf 17 = .ok (.ireturn, 1) := by decide +kernel
set_option maxRecDepth 20000 in
theorem ggX8_percent_X8_bitsSince : GoodIn wsX8_percent wsX8_bitsSince := goodIn_r _ [5, 6, 7, 8, 9, 4, 10, 11, 12, 13, 14, 46, 47, 48, 49, 50, 51, 52, 53, 54, 55, 56, 57, 58, 59, 60, 61, 62, 63, 64, 65, 66, 67, 68, 69, 70, 71, 72] (by decide +kernel) (by decide +kernel)
set_option maxRecDepth 20000 in
theorem gX8_percent_X8_bitsSince : GoodIn wsX8_percent (wsV RX8 111 RX8 yX8_bitsSince wsX8_bitsSince) := goodIn_app (goodIn_of _ (by decide +kernel)) ggX8_percent_X8_bitsSince
set_option maxRecDepth 20000 in
theorem ggX8_percent_X8_symbolsSince : GoodIn wsX8_percent wsX8_symbolsSince := goodIn_r _ [18, 6, 19, 20, 21, 4, 22, 23, 24, 25, 26, 27, 28, 29, 30, 31, 32, 33, 34, 46, 47, 48, 49, 50, 51, 52, 53, 54, 55, 56, 57, 58, 59, 60, 61, 62, 63, 64, 65, 66, 67, 68, 69, 70, 71, 72] (by decide +kernel) (by decide +kernel)
set_option maxRecDepth 20000 in
theorem gX8_percent_X8_symbolsSince : GoodIn wsX8_percent (wsV RX8 114 RX8 yX8_symbolsSince wsX8_symbolsSince) := goodIn_app (goodIn_of _ (by decide +kernel)) ggX8_percent_X8_symbolsSince
set_option maxRecDepth 20000 in
theorem ggX8_percent_X8_percentOf : GoodIn wsX8_percent wsX8_percentOf := goodIn_r _ [38, 39, 40, 41, 4, 42, 6, 43, 44, 45, 46, 47, 48, 49, 50, 51, 52, 53, 54, 55, 56, 57, 58, 59, 60, 61, 62, 63, 64, 65, 66, 67, 68, 69, 70, 71, 72] (by decide +kernel) (by decide +kernel)
set_option maxRecDepth 20000 in
theorem gX8_percent_X8_percentOf : GoodIn wsX8_percent (wsV RX8 117 RX8 yX8_percentOf wsX8_percentOf) := goodIn_app (goodIn_of _ (by decide +kernel)) ggX8_percent_X8_percentOf
theorem dX8_percent_0 : decode cX8_percent 0 = .ok (.aload_n 0, 1) := by decide +kernel
theorem dX8_percent_1 : decode cX8_percent 1 = .ok (.aload_n 0, 1) := by decide +kernel
theorem dX8_percent_2 : decode cX8_percent 2 = .ok (.invokevirtual 111, 3) := by decide +kernel
theorem dX8_percent_5 : decode cX8_percent 5 = .ok (.aload_n 0, 1) := by decide +kernel
theorem dX8_percent_6 : decode cX8_percent 6 = .ok (.invokevirtual 114, 3) := by decide +kernel
theorem dX8_percent_9 : decode cX8_percent 9 = .ok (.invokevirtual 117, 3) := by decide +kernel
theorem dX8_percent_12 : decode cX8_percent 12 = .ok (.ireturn, 1) := by decide +kernel
set_option maxRecDepth 20000 in
theorem ggX8_isAsked_X8_isAllFull : GoodIn wsX8_isAsked wsX8_isAllFull := goodIn_r _ [6, 1, 7, 8, 9, 5, 10, 58, 59, 60, 61, 62, 63, 64, 65, 66, 67, 68, 69, 70, 71, 72, 73, 74, 75, 76, 77, 78, 79, 80, 81, 82, 83, 84] (by decide +kernel) (by decide +kernel)
set_option maxRecDepth 20000 in
theorem gX8_isAsked_X8_isAllFull : GoodIn wsX8_isAsked (wsV RX8 121 RX8 yX8_isAllFull wsX8_isAllFull) := goodIn_app (goodIn_of _ (by decide +kernel)) ggX8_isAsked_X8_isAllFull
set_option maxRecDepth 20000 in
theorem ggX8_isAsked_X8_percent : GoodIn wsX8_isAsked wsX8_percent := goodIn_r _ [14, 15, 16, 17, 5, 18, 1, 19, 20, 21, 22, 23, 24, 25, 26, 27, 28, 29, 30, 31, 32, 33, 34, 35, 36, 37, 38, 39, 40, 41, 42, 43, 44, 45, 46, 47, 48, 49, 50, 51, 52, 53, 54, 55, 56, 57, 58, 59, 60, 61, 62, 63, 64, 65, 66, 67, 68, 69, 70, 71, 72, 73, 74, 75, 76, 77, 78, 79, 80, 81, 82, 83, 84] (by decide +kernel) (by decide +kernel)
set_option maxRecDepth 20000 in
theorem gX8_isAsked_X8_percent : GoodIn wsX8_isAsked (wsV RX8 125 RX8 yX8_percent wsX8_percent) := goodIn_app (goodIn_of _ (by decide +kernel)) ggX8_isAsked_X8_percent
theorem dX8_isAsked_0 : decode cX8_isAsked 0 = .ok (.aload_n 0, 1) := by decide +kernel
theorem dX8_isAsked_1 : decode cX8_isAsked 1 = .ok (.invokevirtual 121, 3) := by decide +kernel
theorem dX8_isAsked_4 : decode cX8_isAsked 4 = .ok (.ifCond .ne 5, 3) := by decide +kernel
theorem dX8_isAsked_7 : decode cX8_isAsked 7 = .ok (.iconst 0, 1) := by decide +kernel
theorem dX8_isAsked_8 : decode cX8_isAsked 8 = .ok (.ireturn, 1) := by decide +kernel
theorem dX8_isAsked_9 : decode cX8_isAsked 9 = .ok (.aload_n 0, 1) := by decide +kernel
theorem dX8_isAsked_10 : decode cX8_isAsked 10 = .ok (.getfield 17, 3) := by decide +kernel
theorem dX8_isAsked_13 : decode cX8_isAsked 13 = .ok (.iconst 2, 1) := by decide +kernel
theorem dX8_isAsked_14 : decode cX8_isAsked 14 = .ok (.iaload, 1) := by decide +kernel
theorem dX8_isAsked_15 : decode cX8_isAsked 15 = .ok (.iconst 2, 1) := by decide +kernel
theorem dX8_isAsked_16 : decode cX8_isAsked 16 = .ok (.if_icmp .ne 22, 3) := by decide +kernel
theorem dX8_isAsked_19 : decode cX8_isAsked 19 = .ok (.aload_n 0, 1) := by decide +kernel
theorem dX8_isAsked_20 : decode cX8_isAsked 20 = .ok (.invokevirtual 125, 3) := by decide +kernel
theorem dX8_isAsked_23 : decode cX8_isAsked 23 = .ok (.aload_n 0, 1) := by decide +kernel
theorem dX8_isAsked_24 : decode cX8_isAsked 24 = .ok (.getfield 17, 3) := by decide +kernel
theorem dX8_isAsked_27 : decode cX8_isAsked 27 = .ok (.iconst 3, 1) := by decide +kernel
theorem dX8_isAsked_28 : decode cX8_isAsked 28 = .ok (.iaload, 1) := by decide +kernel
theorem dX8_isAsked_29 : decode cX8_isAsked 29 = .ok (.if_icmp .le 7, 3) := by decide +kernel
theorem dX8_isAsked_32 : decode cX8_isAsked 32 = .ok (.iconst 1, 1) := by decide +kernel
theorem dX8_isAsked_33 : decode cX8_isAsked 33 = .ok (.goto 4, 3) := by decide +kernel
theorem dX8_isAsked_36 : decode cX8_isAsked 36 = .ok (.iconst 0, 1) := by decide +kernel
theorem dX8_isAsked_37 : decode cX8_isAsked 37 = .ok (.ireturn, 1) := by decide +kernel
theorem dX8_isAsked_38 : decode cX8_isAsked 38 = .ok (.aload_n 0, 1) := by decide +kernel
theorem dX8_isAsked_39 : decode cX8_isAsked 39 = .ok (.getfield 17, 3) := by decide +kernel
theorem dX8_isAsked_42 : decode cX8_isAsked 42 = .ok (.iconst 2, 1) := by decide +kernel
theorem dX8_isAsked_43 : decode cX8_isAsked 43 = .ok (.iaload, 1) := by decide +kernel
theorem dX8_isAsked_44 : decode cX8_isAsked 44 = .ok (.iconst 1, 1) := by decide +kernel
theorem dX8_isAsked_45 : decode cX8_isAsked 45 = .ok (.if_icmp .ne 7, 3) := by decide +kernel
theorem dX8_isAsked_48 : decode cX8_isAsked 48 = .ok (.iconst 1, 1) := by decide +kernel
theorem dX8_isAsked_49 : decode cX8_isAsked 49 = .ok (.goto 4, 3) := by decide +kernel
theorem dX8_isAsked_52 : decode cX8_isAsked 52 = .ok (.iconst 0, 1) := by decide +kernel
theorem dX8_isAsked_53 : decode cX8_isAsked 53 = .ok (.ireturn, 1) := by decide +kernel
set_option maxRecDepth 20000 in
theorem ggX8_endsPhrase_X8_writes : GoodIn wsX8_endsPhrase wsX8_writes := goodIn_r _ [6, 1, 7, 8, 5, 9, 10, 11, 12, 13, 14, 15, 16, 17, 18, 19, 20, 21, 78, 79, 80, 81, 82, 83, 84, 85, 86, 87, 88, 89, 90, 91, 92, 93, 94, 95, 96, 97, 98, 99, 100, 101, 102, 103, 104] (by decide +kernel) (by decide +kernel)
set_option maxRecDepth 20000 in
theorem gX8_endsPhrase_X8_writes : GoodIn wsX8_endsPhrase (wsV RX8 92 RX8 yX8_writes wsX8_writes) := goodIn_app (goodIn_of _ (by decide +kernel)) ggX8_endsPhrase_X8_writes
set_option maxRecDepth 20000 in
theorem ggX8_endsPhrase_X8_isAsked : GoodIn wsX8_endsPhrase wsX8_isAsked := goodIn_r _ [25, 1, 26, 27, 28, 5, 29, 30, 31, 32, 33, 34, 35, 36, 37, 38, 39, 40, 41, 42, 43, 44, 45, 46, 47, 48, 49, 50, 51, 52, 53, 54, 55, 56, 57, 10, 11, 12, 13, 14, 15, 16, 17, 18, 19, 20, 21, 58, 59, 60, 61, 62, 63, 64, 65, 7, 8, 9, 78, 79, 80, 81, 82, 83, 84, 85, 86, 87, 88, 89, 90, 91, 92, 93, 94, 95, 96, 97, 98, 99, 100, 101, 102, 103, 104] (by decide +kernel) (by decide +kernel)
set_option maxRecDepth 20000 in
theorem gX8_endsPhrase_X8_isAsked : GoodIn wsX8_endsPhrase (wsV RX8 128 RX8 yX8_isAsked wsX8_isAsked) := goodIn_app (goodIn_of _ (by decide +kernel)) ggX8_endsPhrase_X8_isAsked
set_option maxRecDepth 20000 in
theorem ggX8_endsPhrase_X8_writesClear : GoodIn wsX8_endsPhrase wsX8_writesClear := goodIn_r _ [69, 1, 14, 15, 16, 5, 17, 2, 3, 4, 6, 7, 8, 9, 10, 11, 12, 13, 18, 19, 20, 21, 70, 71, 72, 73, 78, 79, 80, 81, 82, 83, 84, 85, 86, 87, 88, 89, 90, 91, 92, 93, 94, 95, 96, 97, 98, 99, 100, 101, 102, 103, 104] (by decide +kernel) (by decide +kernel)
set_option maxRecDepth 20000 in
theorem gX8_endsPhrase_X8_writesClear : GoodIn wsX8_endsPhrase (wsV RX8 131 RX8 yX8_writesClear wsX8_writesClear) := goodIn_app (goodIn_of _ (by decide +kernel)) ggX8_endsPhrase_X8_writesClear
set_option maxRecDepth 20000 in
theorem ggX8_endsPhrase_X8_isAllFull : GoodIn wsX8_endsPhrase wsX8_isAllFull := goodIn_r _ [29, 1, 30, 31, 32, 5, 33, 78, 79, 80, 81, 82, 83, 84, 85, 86, 87, 88, 89, 90, 91, 92, 93, 94, 95, 96, 97, 98, 99, 100, 101, 102, 103, 104] (by decide +kernel) (by decide +kernel)
set_option maxRecDepth 20000 in
theorem gX8_endsPhrase_X8_isAllFull : GoodIn wsX8_endsPhrase (wsV RX8 121 RX8 yX8_isAllFull wsX8_isAllFull) := goodIn_app (goodIn_of _ (by decide +kernel)) ggX8_endsPhrase_X8_isAllFull
set_option maxRecDepth 20000 in
theorem ggX8_endsPhrase_X8_learns : GoodIn wsX8_endsPhrase wsX8_learns := goodIn_r _ [77, 1, 78, 79, 80, 81, 82, 83, 84, 85, 86, 87, 88, 89, 90, 91, 92, 93, 94, 95, 96, 97, 98, 99, 100, 101, 102, 103, 104] (by decide +kernel) (by decide +kernel)
set_option maxRecDepth 20000 in
theorem gX8_endsPhrase_X8_learns : GoodIn wsX8_endsPhrase (wsV RX8 134 RX8 yX8_learns wsX8_learns) := goodIn_app (goodIn_of _ (by decide +kernel)) ggX8_endsPhrase_X8_learns
theorem dX8_endsPhrase_0 : decode cX8_endsPhrase 0 = .ok (.aload_n 0, 1) := by decide +kernel
theorem dX8_endsPhrase_1 : decode cX8_endsPhrase 1 = .ok (.iload_n 1, 1) := by decide +kernel
theorem dX8_endsPhrase_2 : decode cX8_endsPhrase 2 = .ok (.invokevirtual 92, 3) := by decide +kernel
theorem dX8_endsPhrase_5 : decode cX8_endsPhrase 5 = .ok (.aload_n 0, 1) := by decide +kernel
theorem dX8_endsPhrase_6 : decode cX8_endsPhrase 6 = .ok (.invokevirtual 128, 3) := by decide +kernel
theorem dX8_endsPhrase_9 : decode cX8_endsPhrase 9 = .ok (.ifCond .eq 10, 3) := by decide +kernel
theorem dX8_endsPhrase_12 : decode cX8_endsPhrase 12 = .ok (.aload_n 0, 1) := by decide +kernel
theorem dX8_endsPhrase_13 : decode cX8_endsPhrase 13 = .ok (.invokevirtual 131, 3) := by decide +kernel
theorem dX8_endsPhrase_16 : decode cX8_endsPhrase 16 = .ok (.goto 16, 3) := by decide +kernel
theorem dX8_endsPhrase_19 : decode cX8_endsPhrase 19 = .ok (.aload_n 0, 1) := by decide +kernel
theorem dX8_endsPhrase_20 : decode cX8_endsPhrase 20 = .ok (.invokevirtual 121, 3) := by decide +kernel
theorem dX8_endsPhrase_23 : decode cX8_endsPhrase 23 = .ok (.ifCond .ne 9, 3) := by decide +kernel
theorem dX8_endsPhrase_26 : decode cX8_endsPhrase 26 = .ok (.aload_n 0, 1) := by decide +kernel
theorem dX8_endsPhrase_27 : decode cX8_endsPhrase 27 = .ok (.iload_n 1, 1) := by decide +kernel
theorem dX8_endsPhrase_28 : decode cX8_endsPhrase 28 = .ok (.iload_n 2, 1) := by decide +kernel
theorem dX8_endsPhrase_29 : decode cX8_endsPhrase 29 = .ok (.invokevirtual 134, 3) := by decide +kernel
theorem dX8_endsPhrase_32 : decode cX8_endsPhrase 32 = .ok (.aload_n 0, 1) := by decide +kernel
theorem dX8_endsPhrase_33 : decode cX8_endsPhrase 33 = .ok (.getfield 17, 3) := by decide +kernel
theorem dX8_endsPhrase_36 : decode cX8_endsPhrase 36 = .ok (.iconst 5, 1) := by decide +kernel
theorem dX8_endsPhrase_37 : decode cX8_endsPhrase 37 = .ok (.iload_n 2, 1) := by decide +kernel
theorem dX8_endsPhrase_38 : decode cX8_endsPhrase 38 = .ok (.iconst 1, 1) := by decide +kernel
theorem dX8_endsPhrase_39 : decode cX8_endsPhrase 39 = .ok (.iadd, 1) := by decide +kernel
theorem dX8_endsPhrase_40 : decode cX8_endsPhrase 40 = .ok (.iastore, 1) := by decide +kernel
theorem dX8_endsPhrase_41 : decode cX8_endsPhrase 41 = .ok (.return_, 1) := by decide +kernel
set_option maxRecDepth 20000 in
theorem ggX8_encodes_X8_longer : GoodIn wsX8_encodes wsX8_longer := goodIn_r _ [6, 1, 7, 8, 9, 5, 10, 86, 87, 88, 89, 90, 91, 92, 93, 94, 95, 96, 97, 98, 99, 100, 101, 102, 103, 104, 105, 106, 107, 108, 109, 110, 111, 112] (by decide +kernel) (by decide +kernel)
set_option maxRecDepth 20000 in
theorem gX8_encodes_X8_longer : GoodIn wsX8_encodes (wsV RX8 138 RX8 yX8_longer wsX8_longer) := goodIn_app (goodIn_of _ (by decide +kernel)) ggX8_encodes_X8_longer
set_option maxRecDepth 20000 in
theorem ggX8_encodes_X8_endsPhrase : GoodIn wsX8_encodes wsX8_endsPhrase := goodIn_r _ [14, 1, 15, 16, 17, 5, 18, 19, 20, 21, 22, 23, 24, 25, 7, 8, 9, 10, 26, 27, 28, 29, 30, 31, 32, 33, 34, 35, 36, 37, 38, 39, 40, 41, 42, 43, 44, 45, 46, 47, 48, 49, 50, 51, 52, 53, 54, 55, 56, 57, 58, 59, 60, 61, 62, 63, 64, 65, 66, 67, 68, 69, 70, 71, 72, 73, 74, 75, 76, 77, 78, 79, 80, 81, 82, 83, 84, 85, 86, 87, 88, 89, 90, 91, 92, 93, 94, 95, 96, 97, 98, 99, 100, 101, 102, 103, 104, 105, 106, 107, 108, 109, 110, 111, 112] (by decide +kernel) (by decide +kernel)
set_option maxRecDepth 20000 in
theorem gX8_encodes_X8_endsPhrase : GoodIn wsX8_encodes (wsV RX8 141 RX8 yX8_endsPhrase wsX8_endsPhrase) := goodIn_app (goodIn_of _ (by decide +kernel)) ggX8_encodes_X8_endsPhrase
theorem dX8_encodes_0 : decode cX8_encodes 0 = .ok (.aload_n 0, 1) := by decide +kernel
theorem dX8_encodes_1 : decode cX8_encodes 1 = .ok (.getfield 17, 3) := by decide +kernel
theorem dX8_encodes_4 : decode cX8_encodes 4 = .ok (.sipush 526, 3) := by decide +kernel
theorem dX8_encodes_7 : decode cX8_encodes 7 = .ok (.aload_n 0, 1) := by decide +kernel
theorem dX8_encodes_8 : decode cX8_encodes 8 = .ok (.getfield 17, 3) := by decide +kernel
theorem dX8_encodes_11 : decode cX8_encodes 11 = .ok (.bipush 6, 2) := by decide +kernel
theorem dX8_encodes_13 : decode cX8_encodes 13 = .ok (.iaload, 1) := by decide +kernel
theorem dX8_encodes_14 : decode cX8_encodes 14 = .ok (.iadd, 1) := by decide +kernel
theorem dX8_encodes_15 : decode cX8_encodes 15 = .ok (.iload_n 1, 1) := by decide +kernel
theorem dX8_encodes_16 : decode cX8_encodes 16 = .ok (.iastore, 1) := by decide +kernel
theorem dX8_encodes_17 : decode cX8_encodes 17 = .ok (.aload_n 0, 1) := by decide +kernel
theorem dX8_encodes_18 : decode cX8_encodes 18 = .ok (.getfield 17, 3) := by decide +kernel
theorem dX8_encodes_21 : decode cX8_encodes 21 = .ok (.bipush 6, 2) := by decide +kernel
theorem dX8_encodes_23 : decode cX8_encodes 23 = .ok (.dup2, 1) := by decide +kernel
theorem dX8_encodes_24 : decode cX8_encodes 24 = .ok (.iaload, 1) := by decide +kernel
theorem dX8_encodes_25 : decode cX8_encodes 25 = .ok (.iconst 1, 1) := by decide +kernel
theorem dX8_encodes_26 : decode cX8_encodes 26 = .ok (.iadd, 1) := by decide +kernel
theorem dX8_encodes_27 : decode cX8_encodes 27 = .ok (.iastore, 1) := by decide +kernel
theorem dX8_encodes_28 : decode cX8_encodes 28 = .ok (.aload_n 0, 1) := by decide +kernel
theorem dX8_encodes_29 : decode cX8_encodes 29 = .ok (.getfield 17, 3) := by decide +kernel
theorem dX8_encodes_32 : decode cX8_encodes 32 = .ok (.iconst 5, 1) := by decide +kernel
theorem dX8_encodes_33 : decode cX8_encodes 33 = .ok (.iaload, 1) := by decide +kernel
theorem dX8_encodes_34 : decode cX8_encodes 34 = .ok (.iconst 1, 1) := by decide +kernel
theorem dX8_encodes_35 : decode cX8_encodes 35 = .ok (.isub, 1) := by decide +kernel
theorem dX8_encodes_36 : decode cX8_encodes 36 = .ok (.istore_n 2, 1) := by decide +kernel
theorem dX8_encodes_37 : decode cX8_encodes 37 = .ok (.iload_n 2, 1) := by decide +kernel
theorem dX8_encodes_38 : decode cX8_encodes 38 = .ok (.ifCond .ge 13, 3) := by decide +kernel
theorem dX8_encodes_41 : decode cX8_encodes 41 = .ok (.aload_n 0, 1) := by decide +kernel
theorem dX8_encodes_42 : decode cX8_encodes 42 = .ok (.getfield 17, 3) := by decide +kernel
theorem dX8_encodes_45 : decode cX8_encodes 45 = .ok (.iconst 5, 1) := by decide +kernel
theorem dX8_encodes_46 : decode cX8_encodes 46 = .ok (.iload_n 1, 1) := by decide +kernel
theorem dX8_encodes_47 : decode cX8_encodes 47 = .ok (.iconst 1, 1) := by decide +kernel
theorem dX8_encodes_48 : decode cX8_encodes 48 = .ok (.iadd, 1) := by decide +kernel
theorem dX8_encodes_49 : decode cX8_encodes 49 = .ok (.iastore, 1) := by decide +kernel
theorem dX8_encodes_50 : decode cX8_encodes 50 = .ok (.return_, 1) := by decide +kernel
theorem dX8_encodes_51 : decode cX8_encodes 51 = .ok (.aload_n 0, 1) := by decide +kernel
theorem dX8_encodes_52 : decode cX8_encodes 52 = .ok (.iload_n 2, 1) := by decide +kernel
theorem dX8_encodes_53 : decode cX8_encodes 53 = .ok (.iload_n 1, 1) := by decide +kernel
theorem dX8_encodes_54 : decode cX8_encodes 54 = .ok (.invokevirtual 138, 3) := by decide +kernel
theorem dX8_encodes_57 : decode cX8_encodes 57 = .ok (.istore_n 3, 1) := by decide +kernel
theorem dX8_encodes_58 : decode cX8_encodes 58 = .ok (.iload_n 3, 1) := by decide +kernel
theorem dX8_encodes_59 : decode cX8_encodes 59 = .ok (.ifCond .lt 13, 3) := by decide +kernel
theorem dX8_encodes_62 : decode cX8_encodes 62 = .ok (.aload_n 0, 1) := by decide +kernel
theorem dX8_encodes_63 : decode cX8_encodes 63 = .ok (.getfield 17, 3) := by decide +kernel
theorem dX8_encodes_66 : decode cX8_encodes 66 = .ok (.iconst 5, 1) := by decide +kernel
theorem dX8_encodes_67 : decode cX8_encodes 67 = .ok (.iload_n 3, 1) := by decide +kernel
theorem dX8_encodes_68 : decode cX8_encodes 68 = .ok (.iconst 1, 1) := by decide +kernel
theorem dX8_encodes_69 : decode cX8_encodes 69 = .ok (.iadd, 1) := by decide +kernel
theorem dX8_encodes_70 : decode cX8_encodes 70 = .ok (.iastore, 1) := by decide +kernel
theorem dX8_encodes_71 : decode cX8_encodes 71 = .ok (.return_, 1) := by decide +kernel
theorem dX8_encodes_72 : decode cX8_encodes 72 = .ok (.aload_n 0, 1) := by decide +kernel
theorem dX8_encodes_73 : decode cX8_encodes 73 = .ok (.iload_n 2, 1) := by decide +kernel
theorem dX8_encodes_74 : decode cX8_encodes 74 = .ok (.iload_n 1, 1) := by decide +kernel
theorem dX8_encodes_75 : decode cX8_encodes 75 = .ok (.invokevirtual 141, 3) := by decide +kernel
theorem dX8_encodes_78 : decode cX8_encodes 78 = .ok (.return_, 1) := by decide +kernel
set_option maxRecDepth 20000 in
theorem ggX8_encode_X8_isSymbol : GoodIn wsX8_encode wsX8_isSymbol := goodIn_r _ [6, 1, 7, 8, 5, 9, 117, 118, 119, 120, 121, 122, 123, 124, 125, 126, 127, 128, 129, 130, 131, 132, 133, 134, 135, 136, 137, 138, 139, 140, 141, 142, 143] (by decide +kernel) (by decide +kernel)
set_option maxRecDepth 20000 in
theorem gX8_encode_X8_isSymbol : GoodIn wsX8_encode (wsV RX8 144 RX8 yX8_isSymbol wsX8_isSymbol) := goodIn_app (goodIn_of _ (by decide +kernel)) ggX8_encode_X8_isSymbol
set_option maxRecDepth 20000 in
theorem ggX8_encode_X8_throwing : GoodIn wsX8_encode wsX8_throwing := goodIn_r _ [13, 14, 117, 118, 119, 120, 121, 122, 123, 124, 125, 126, 127, 128, 129, 130, 131, 132, 133, 134, 135, 136, 137, 138, 139, 140, 141, 142, 143] (by decide +kernel) (by decide +kernel)
set_option maxRecDepth 20000 in
theorem gX8_encode_X8_throwing : GoodIn wsX8_encode (wsV RX8 59 RX8 yX8_throwing wsX8_throwing) := goodIn_app (goodIn_of _ (by decide +kernel)) ggX8_encode_X8_throwing
set_option maxRecDepth 20000 in
theorem ggX8_encode_X8_keepsAside : GoodIn wsX8_encode wsX8_keepsAside := goodIn_r _ [18, 19, 1, 117, 118, 119, 120, 121, 122, 123, 124, 125, 126, 127, 128, 129, 130, 131, 132, 133, 134, 135, 136, 137, 138, 139, 140, 141, 142, 143] (by decide +kernel) (by decide +kernel)
set_option maxRecDepth 20000 in
theorem gX8_encode_X8_keepsAside : GoodIn wsX8_encode (wsV RX8 70 RX8 yX8_keepsAside wsX8_keepsAside) := goodIn_app (goodIn_of _ (by decide +kernel)) ggX8_encode_X8_keepsAside
set_option maxRecDepth 20000 in
theorem ggX8_encode_X8_encodes : GoodIn wsX8_encode wsX8_encodes := goodIn_r _ [23, 1, 24, 25, 26, 5, 27, 28, 29, 30, 31, 32, 33, 34, 35, 36, 37, 38, 39, 40, 41, 42, 43, 44, 45, 46, 47, 48, 49, 50, 51, 52, 53, 54, 55, 56, 57, 58, 59, 60, 61, 62, 63, 64, 65, 66, 67, 68, 69, 70, 71, 72, 73, 74, 75, 76, 77, 78, 79, 80, 81, 82, 83, 84, 85, 86, 87, 88, 89, 90, 91, 92, 93, 94, 95, 96, 97, 98, 99, 100, 101, 102, 103, 104, 105, 106, 117, 118, 119, 120, 121, 122, 123, 124, 125, 126, 127, 128, 129, 130, 131, 132, 133, 134, 135, 136, 137, 138, 139, 140, 141, 142, 143] (by decide +kernel) (by decide +kernel)
set_option maxRecDepth 20000 in
theorem gX8_encode_X8_encodes : GoodIn wsX8_encode (wsV RX8 147 RX8 yX8_encodes wsX8_encodes) := goodIn_app (goodIn_of _ (by decide +kernel)) ggX8_encode_X8_encodes
set_option maxRecDepth 20000 in
theorem ggX8_encode_X8_changed : GoodIn wsX8_encode wsX8_changed := goodIn_r _ [110, 111, 112, 19, 113, 114, 115, 5, 116, 14, 117, 118, 119, 120, 121, 122, 123, 124, 125, 126, 127, 128, 129, 130, 131, 132, 133, 134, 135, 136, 137, 138, 139, 140, 141, 142, 143] (by decide +kernel) (by decide +kernel)
set_option maxRecDepth 20000 in
theorem gX8_encode_X8_changed : GoodIn wsX8_encode (wsV RX8 73 RX8 yX8_changed wsX8_changed) := goodIn_app (goodIn_of _ (by decide +kernel)) ggX8_encode_X8_changed
theorem dX8_encode_0 : decode cX8_encode 0 = .ok (.aload_n 0, 1) := by decide +kernel
theorem dX8_encode_1 : decode cX8_encode 1 = .ok (.iload_n 1, 1) := by decide +kernel
theorem dX8_encode_2 : decode cX8_encode 2 = .ok (.invokevirtual 144, 3) := by decide +kernel
theorem dX8_encode_5 : decode cX8_encode 5 = .ok (.ifCond .ne 9, 3) := by decide +kernel
theorem dX8_encode_8 : decode cX8_encode 8 = .ok (.aload_n 0, 1) := by decide +kernel
theorem dX8_encode_9 : decode cX8_encode 9 = .ok (.iconst 1, 1) := by decide +kernel
theorem dX8_encode_10 : decode cX8_encode 10 = .ok (.invokevirtual 59, 3) := by decide +kernel
theorem dX8_encode_13 : decode cX8_encode 13 = .ok (.ireturn, 1) := by decide +kernel
theorem dX8_encode_14 : decode cX8_encode 14 = .ok (.aload_n 0, 1) := by decide +kernel
theorem dX8_encode_15 : decode cX8_encode 15 = .ok (.getfield 17, 3) := by decide +kernel
theorem dX8_encode_18 : decode cX8_encode 18 = .ok (.bipush 6, 2) := by decide +kernel
theorem dX8_encode_20 : decode cX8_encode 20 = .ok (.iaload, 1) := by decide +kernel
theorem dX8_encode_21 : decode cX8_encode 21 = .ok (.sipush 400, 3) := by decide +kernel
theorem dX8_encode_24 : decode cX8_encode 24 = .ok (.if_icmp .ne 9, 3) := by decide +kernel
theorem dX8_encode_27 : decode cX8_encode 27 = .ok (.aload_n 0, 1) := by decide +kernel
theorem dX8_encode_28 : decode cX8_encode 28 = .ok (.iconst 2, 1) := by decide +kernel
theorem dX8_encode_29 : decode cX8_encode 29 = .ok (.invokevirtual 59, 3) := by decide +kernel
theorem dX8_encode_32 : decode cX8_encode 32 = .ok (.ireturn, 1) := by decide +kernel
theorem dX8_encode_33 : decode cX8_encode 33 = .ok (.aload_n 0, 1) := by decide +kernel
theorem dX8_encode_34 : decode cX8_encode 34 = .ok (.invokevirtual 70, 3) := by decide +kernel
theorem dX8_encode_37 : decode cX8_encode 37 = .ok (.aload_n 0, 1) := by decide +kernel
theorem dX8_encode_38 : decode cX8_encode 38 = .ok (.getfield 17, 3) := by decide +kernel
theorem dX8_encode_41 : decode cX8_encode 41 = .ok (.bipush 7, 2) := by decide +kernel
theorem dX8_encode_43 : decode cX8_encode 43 = .ok (.iaload, 1) := by decide +kernel
theorem dX8_encode_44 : decode cX8_encode 44 = .ok (.istore_n 2, 1) := by decide +kernel
theorem dX8_encode_45 : decode cX8_encode 45 = .ok (.aload_n 0, 1) := by decide +kernel
theorem dX8_encode_46 : decode cX8_encode 46 = .ok (.iload_n 1, 1) := by decide +kernel
theorem dX8_encode_47 : decode cX8_encode 47 = .ok (.invokevirtual 147, 3) := by decide +kernel
theorem dX8_encode_50 : decode cX8_encode 50 = .ok (.aload_n 0, 1) := by decide +kernel
theorem dX8_encode_51 : decode cX8_encode 51 = .ok (.aload_n 0, 1) := by decide +kernel
theorem dX8_encode_52 : decode cX8_encode 52 = .ok (.getfield 17, 3) := by decide +kernel
theorem dX8_encode_55 : decode cX8_encode 55 = .ok (.bipush 7, 2) := by decide +kernel
theorem dX8_encode_57 : decode cX8_encode 57 = .ok (.iaload, 1) := by decide +kernel
theorem dX8_encode_58 : decode cX8_encode 58 = .ok (.iload_n 2, 1) := by decide +kernel
theorem dX8_encode_59 : decode cX8_encode 59 = .ok (.isub, 1) := by decide +kernel
theorem dX8_encode_60 : decode cX8_encode 60 = .ok (.invokevirtual 73, 3) := by decide +kernel
theorem dX8_encode_63 : decode cX8_encode 63 = .ok (.ireturn, 1) := by decide +kernel
set_option maxRecDepth 20000 in
theorem ggX8_isLetter_X8_isSymbol : GoodIn wsX8_isLetter wsX8_isSymbol := goodIn_r _ [5, 6, 7, 8, 4, 9, 10, 11, 12, 13, 14, 15, 16, 17, 18, 19, 20, 21, 22, 23, 24, 25, 26, 27, 28, 29, 30, 31, 32, 33, 34, 35, 36] (by decide +kernel) (by decide +kernel)
set_option maxRecDepth 20000 in
theorem gX8_isLetter_X8_isSymbol : GoodIn wsX8_isLetter (wsV RX8 144 RX8 yX8_isSymbol wsX8_isSymbol) := goodIn_app (goodIn_of _ (by decide +kernel)) ggX8_isLetter_X8_isSymbol
theorem dX8_isLetter_0 : decode cX8_isLetter 0 = .ok (.aload_n 0, 1) := by decide +kernel
theorem dX8_isLetter_1 : decode cX8_isLetter 1 = .ok (.iload_n 1, 1) := by decide +kernel
theorem dX8_isLetter_2 : decode cX8_isLetter 2 = .ok (.bipush 97, 2) := by decide +kernel
theorem dX8_isLetter_4 : decode cX8_isLetter 4 = .ok (.isub, 1) := by decide +kernel
theorem dX8_isLetter_5 : decode cX8_isLetter 5 = .ok (.invokevirtual 144, 3) := by decide +kernel
theorem dX8_isLetter_8 : decode cX8_isLetter 8 = .ok (.ireturn, 1) := by decide +kernel
set_option maxRecDepth 20000 in
theorem ggX8_encodesTape_X8_encodes : GoodIn wsX8_encodesTape wsX8_encodes := goodIn_r _ [6, 7, 8, 9, 10, 5, 11, 12, 13, 14, 15, 16, 17, 18, 19, 20, 21, 22, 23, 24, 25, 26, 27, 28, 29, 30, 31, 32, 33, 34, 35, 36, 37, 38, 39, 40, 41, 42, 43, 44, 45, 46, 47, 48, 49, 50, 51, 52, 53, 54, 55, 56, 57, 58, 59, 60, 61, 62, 63, 64, 65, 66, 67, 68, 69, 70, 71, 72, 73, 74, 75, 76, 77, 78, 79, 80, 81, 82, 83, 84, 85, 86, 87, 88, 89, 90, 91, 92, 93, 94, 95, 96, 97, 98, 99, 100, 101, 102, 103, 104, 105, 106, 107, 108, 109, 110, 111, 112, 113, 114, 115, 116, 117] (by decide +kernel) (by decide +kernel)
set_option maxRecDepth 20000 in
theorem gX8_encodesTape_X8_encodes : GoodIn wsX8_encodesTape (wsV RX8 147 RX8 yX8_encodes wsX8_encodes) := goodIn_app (goodIn_of _ (by decide +kernel)) ggX8_encodesTape_X8_encodes
theorem dX8_encodesTape_0 : decode cX8_encodesTape 0 = .ok (.iconst 0, 1) := by decide +kernel
theorem dX8_encodesTape_1 : decode cX8_encodesTape 1 = .ok (.istore_n 3, 1) := by decide +kernel
theorem dX8_encodesTape_2 : decode cX8_encodesTape 2 = .ok (.iload_n 3, 1) := by decide +kernel
theorem dX8_encodesTape_3 : decode cX8_encodesTape 3 = .ok (.iload_n 2, 1) := by decide +kernel
theorem dX8_encodesTape_4 : decode cX8_encodesTape 4 = .ok (.if_icmp .ge 24, 3) := by decide +kernel
theorem dX8_encodesTape_7 : decode cX8_encodesTape 7 = .ok (.aload_n 0, 1) := by decide +kernel
theorem dX8_encodesTape_8 : decode cX8_encodesTape 8 = .ok (.aload_n 0, 1) := by decide +kernel
theorem dX8_encodesTape_9 : decode cX8_encodesTape 9 = .ok (.getfield 7, 3) := by decide +kernel
theorem dX8_encodesTape_12 : decode cX8_encodesTape 12 = .ok (.iload_n 1, 1) := by decide +kernel
theorem dX8_encodesTape_13 : decode cX8_encodesTape 13 = .ok (.iload_n 3, 1) := by decide +kernel
theorem dX8_encodesTape_14 : decode cX8_encodesTape 14 = .ok (.iadd, 1) := by decide +kernel
theorem dX8_encodesTape_15 : decode cX8_encodesTape 15 = .ok (.baload, 1) := by decide +kernel
theorem dX8_encodesTape_16 : decode cX8_encodesTape 16 = .ok (.bipush 97, 2) := by decide +kernel
theorem dX8_encodesTape_18 : decode cX8_encodesTape 18 = .ok (.isub, 1) := by decide +kernel
theorem dX8_encodesTape_19 : decode cX8_encodesTape 19 = .ok (.invokevirtual 147, 3) := by decide +kernel
theorem dX8_encodesTape_22 : decode cX8_encodesTape 22 = .ok (.iinc 3 1, 3) := by decide +kernel
theorem dX8_encodesTape_25 : decode cX8_encodesTape 25 = .ok (.goto (-23), 3) := by decide +kernel
theorem dX8_encodesTape_28 : decode cX8_encodesTape 28 = .ok (.return_, 1) := by decide +kernel
set_option maxRecDepth 20000 in
theorem ggX8_areLetters_X8_isLetter : GoodIn wsX8_areLetters wsX8_isLetter := goodIn_r _ [6, 7, 8, 9, 5, 10, 11, 12, 13, 14, 15, 16, 17, 18, 19, 20, 21, 22, 23, 24, 25, 26, 27, 28, 29, 30, 31, 32, 33, 34, 35, 36, 37, 38, 39, 40, 41] (by decide +kernel) (by decide +kernel)
set_option maxRecDepth 20000 in
theorem gX8_areLetters_X8_isLetter : GoodIn wsX8_areLetters (wsV RX8 150 RX8 yX8_isLetter wsX8_isLetter) := goodIn_app (goodIn_of _ (by decide +kernel)) ggX8_areLetters_X8_isLetter
theorem dX8_areLetters_0 : decode cX8_areLetters 0 = .ok (.iconst 1, 1) := by decide +kernel
theorem dX8_areLetters_1 : decode cX8_areLetters 1 = .ok (.istore_n 3, 1) := by decide +kernel
theorem dX8_areLetters_2 : decode cX8_areLetters 2 = .ok (.iconst 0, 1) := by decide +kernel
theorem dX8_areLetters_3 : decode cX8_areLetters 3 = .ok (.istore 4, 2) := by decide +kernel
theorem dX8_areLetters_5 : decode cX8_areLetters 5 = .ok (.iload 4, 2) := by decide +kernel
theorem dX8_areLetters_7 : decode cX8_areLetters 7 = .ok (.iload_n 2, 1) := by decide +kernel
theorem dX8_areLetters_8 : decode cX8_areLetters 8 = .ok (.if_icmp .ge 27, 3) := by decide +kernel
theorem dX8_areLetters_11 : decode cX8_areLetters 11 = .ok (.iload_n 3, 1) := by decide +kernel
theorem dX8_areLetters_12 : decode cX8_areLetters 12 = .ok (.ifCond .eq 23, 3) := by decide +kernel
theorem dX8_areLetters_15 : decode cX8_areLetters 15 = .ok (.aload_n 0, 1) := by decide +kernel
theorem dX8_areLetters_16 : decode cX8_areLetters 16 = .ok (.aload_n 0, 1) := by decide +kernel
theorem dX8_areLetters_17 : decode cX8_areLetters 17 = .ok (.getfield 7, 3) := by decide +kernel
theorem dX8_areLetters_20 : decode cX8_areLetters 20 = .ok (.iload_n 1, 1) := by decide +kernel
theorem dX8_areLetters_21 : decode cX8_areLetters 21 = .ok (.iload 4, 2) := by decide +kernel
theorem dX8_areLetters_23 : decode cX8_areLetters 23 = .ok (.iadd, 1) := by decide +kernel
theorem dX8_areLetters_24 : decode cX8_areLetters 24 = .ok (.baload, 1) := by decide +kernel
theorem dX8_areLetters_25 : decode cX8_areLetters 25 = .ok (.invokevirtual 150, 3) := by decide +kernel
theorem dX8_areLetters_28 : decode cX8_areLetters 28 = .ok (.istore_n 3, 1) := by decide +kernel
theorem dX8_areLetters_29 : decode cX8_areLetters 29 = .ok (.iinc 4 1, 3) := by decide +kernel
theorem dX8_areLetters_32 : decode cX8_areLetters 32 = .ok (.goto (-27), 3) := by decide +kernel
theorem dX8_areLetters_35 : decode cX8_areLetters 35 = .ok (.iload_n 3, 1) := by decide +kernel
theorem dX8_areLetters_36 : decode cX8_areLetters 36 = .ok (.ireturn, 1) := by decide +kernel
set_option maxRecDepth 20000 in
theorem ggX8_encodeTape_X8_areLetters : GoodIn wsX8_encodeTape wsX8_areLetters := goodIn_r _ [7, 8, 9, 10, 11, 6, 12, 13, 14, 15, 16, 2, 17, 18, 19, 131, 132, 133, 134, 135, 136, 137, 138, 139, 140, 141, 142, 143, 144, 145, 146, 147, 148, 149, 150, 151, 152, 153, 154, 155, 156, 157] (by decide +kernel) (by decide +kernel)
set_option maxRecDepth 20000 in
theorem gX8_encodeTape_X8_areLetters : GoodIn wsX8_encodeTape (wsV RX8 156 RX8 yX8_areLetters wsX8_areLetters) := goodIn_app (goodIn_of _ (by decide +kernel)) ggX8_encodeTape_X8_areLetters
set_option maxRecDepth 20000 in
theorem ggX8_encodeTape_X8_throwing : GoodIn wsX8_encodeTape wsX8_throwing := goodIn_r _ [23, 24, 131, 132, 133, 134, 135, 136, 137, 138, 139, 140, 141, 142, 143, 144, 145, 146, 147, 148, 149, 150, 151, 152, 153, 154, 155, 156, 157] (by decide +kernel) (by decide +kernel)
set_option maxRecDepth 20000 in
theorem gX8_encodeTape_X8_throwing : GoodIn wsX8_encodeTape (wsV RX8 59 RX8 yX8_throwing wsX8_throwing) := goodIn_app (goodIn_of _ (by decide +kernel)) ggX8_encodeTape_X8_throwing
set_option maxRecDepth 20000 in
theorem ggX8_encodeTape_X8_keepsAside : GoodIn wsX8_encodeTape wsX8_keepsAside := goodIn_r _ [28, 29, 2, 131, 132, 133, 134, 135, 136, 137, 138, 139, 140, 141, 142, 143, 144, 145, 146, 147, 148, 149, 150, 151, 152, 153, 154, 155, 156, 157] (by decide +kernel) (by decide +kernel)
set_option maxRecDepth 20000 in
theorem gX8_encodeTape_X8_keepsAside : GoodIn wsX8_encodeTape (wsV RX8 70 RX8 yX8_keepsAside wsX8_keepsAside) := goodIn_app (goodIn_of _ (by decide +kernel)) ggX8_encodeTape_X8_keepsAside
set_option maxRecDepth 20000 in
theorem ggX8_encodeTape_X8_encodesTape : GoodIn wsX8_encodeTape wsX8_encodesTape := goodIn_r _ [33, 8, 34, 35, 36, 6, 37, 2, 38, 39, 40, 41, 42, 43, 44, 45, 46, 47, 48, 49, 50, 51, 52, 53, 54, 55, 56, 57, 58, 59, 60, 61, 62, 63, 64, 65, 66, 67, 68, 69, 70, 71, 72, 73, 74, 75, 76, 77, 78, 79, 80, 81, 82, 83, 84, 85, 86, 87, 88, 89, 90, 91, 92, 93, 94, 95, 96, 97, 98, 99, 100, 101, 102, 103, 104, 105, 106, 107, 108, 109, 110, 111, 112, 113, 114, 115, 116, 117, 118, 119, 120, 131, 132, 133, 134, 135, 136, 137, 138, 139, 140, 141, 142, 143, 144, 145, 146, 147, 148, 149, 150, 151, 152, 153, 154, 155, 156, 157] (by decide +kernel) (by decide +kernel)
set_option maxRecDepth 20000 in
theorem gX8_encodeTape_X8_encodesTape : GoodIn wsX8_encodeTape (wsV RX8 160 RX8 yX8_encodesTape wsX8_encodesTape) := goodIn_app (goodIn_of _ (by decide +kernel)) ggX8_encodeTape_X8_encodesTape
set_option maxRecDepth 20000 in
theorem ggX8_encodeTape_X8_changed : GoodIn wsX8_encodeTape wsX8_changed := goodIn_r _ [124, 125, 126, 29, 127, 128, 129, 6, 130, 24, 131, 132, 133, 134, 135, 136, 137, 138, 139, 140, 141, 142, 143, 144, 145, 146, 147, 148, 149, 150, 151, 152, 153, 154, 155, 156, 157] (by decide +kernel) (by decide +kernel)
set_option maxRecDepth 20000 in
theorem gX8_encodeTape_X8_changed : GoodIn wsX8_encodeTape (wsV RX8 73 RX8 yX8_changed wsX8_changed) := goodIn_app (goodIn_of _ (by decide +kernel)) ggX8_encodeTape_X8_changed
theorem dX8_encodeTape_0 : decode cX8_encodeTape 0 = .ok (.aload_n 0, 1) := by decide +kernel
theorem dX8_encodeTape_1 : decode cX8_encodeTape 1 = .ok (.iconst 0, 1) := by decide +kernel
theorem dX8_encodeTape_2 : decode cX8_encodeTape 2 = .ok (.aload_n 0, 1) := by decide +kernel
theorem dX8_encodeTape_3 : decode cX8_encodeTape 3 = .ok (.getfield 153, 3) := by decide +kernel
theorem dX8_encodeTape_6 : decode cX8_encodeTape 6 = .ok (.invokevirtual 156, 3) := by decide +kernel
theorem dX8_encodeTape_9 : decode cX8_encodeTape 9 = .ok (.ifCond .ne 9, 3) := by decide +kernel
theorem dX8_encodeTape_12 : decode cX8_encodeTape 12 = .ok (.aload_n 0, 1) := by decide +kernel
theorem dX8_encodeTape_13 : decode cX8_encodeTape 13 = .ok (.iconst 1, 1) := by decide +kernel
theorem dX8_encodeTape_14 : decode cX8_encodeTape 14 = .ok (.invokevirtual 59, 3) := by decide +kernel
theorem dX8_encodeTape_17 : decode cX8_encodeTape 17 = .ok (.ireturn, 1) := by decide +kernel
theorem dX8_encodeTape_18 : decode cX8_encodeTape 18 = .ok (.aload_n 0, 1) := by decide +kernel
theorem dX8_encodeTape_19 : decode cX8_encodeTape 19 = .ok (.getfield 17, 3) := by decide +kernel
theorem dX8_encodeTape_22 : decode cX8_encodeTape 22 = .ok (.bipush 6, 2) := by decide +kernel
theorem dX8_encodeTape_24 : decode cX8_encodeTape 24 = .ok (.iaload, 1) := by decide +kernel
theorem dX8_encodeTape_25 : decode cX8_encodeTape 25 = .ok (.aload_n 0, 1) := by decide +kernel
theorem dX8_encodeTape_26 : decode cX8_encodeTape 26 = .ok (.getfield 153, 3) := by decide +kernel
theorem dX8_encodeTape_29 : decode cX8_encodeTape 29 = .ok (.iadd, 1) := by decide +kernel
theorem dX8_encodeTape_30 : decode cX8_encodeTape 30 = .ok (.sipush 400, 3) := by decide +kernel
theorem dX8_encodeTape_33 : decode cX8_encodeTape 33 = .ok (.if_icmp .le 9, 3) := by decide +kernel
theorem dX8_encodeTape_36 : decode cX8_encodeTape 36 = .ok (.aload_n 0, 1) := by decide +kernel
theorem dX8_encodeTape_37 : decode cX8_encodeTape 37 = .ok (.iconst 2, 1) := by decide +kernel
theorem dX8_encodeTape_38 : decode cX8_encodeTape 38 = .ok (.invokevirtual 59, 3) := by decide +kernel
theorem dX8_encodeTape_41 : decode cX8_encodeTape 41 = .ok (.ireturn, 1) := by decide +kernel
theorem dX8_encodeTape_42 : decode cX8_encodeTape 42 = .ok (.aload_n 0, 1) := by decide +kernel
theorem dX8_encodeTape_43 : decode cX8_encodeTape 43 = .ok (.invokevirtual 70, 3) := by decide +kernel
theorem dX8_encodeTape_46 : decode cX8_encodeTape 46 = .ok (.aload_n 0, 1) := by decide +kernel
theorem dX8_encodeTape_47 : decode cX8_encodeTape 47 = .ok (.getfield 17, 3) := by decide +kernel
theorem dX8_encodeTape_50 : decode cX8_encodeTape 50 = .ok (.bipush 7, 2) := by decide +kernel
theorem dX8_encodeTape_52 : decode cX8_encodeTape 52 = .ok (.iaload, 1) := by decide +kernel
theorem dX8_encodeTape_53 : decode cX8_encodeTape 53 = .ok (.istore_n 1, 1) := by decide +kernel
theorem dX8_encodeTape_54 : decode cX8_encodeTape 54 = .ok (.aload_n 0, 1) := by decide +kernel
theorem dX8_encodeTape_55 : decode cX8_encodeTape 55 = .ok (.iconst 0, 1) := by decide +kernel
theorem dX8_encodeTape_56 : decode cX8_encodeTape 56 = .ok (.aload_n 0, 1) := by decide +kernel
theorem dX8_encodeTape_57 : decode cX8_encodeTape 57 = .ok (.getfield 153, 3) := by decide +kernel
theorem dX8_encodeTape_60 : decode cX8_encodeTape 60 = .ok (.invokevirtual 160, 3) := by decide +kernel
theorem dX8_encodeTape_63 : decode cX8_encodeTape 63 = .ok (.aload_n 0, 1) := by decide +kernel
theorem dX8_encodeTape_64 : decode cX8_encodeTape 64 = .ok (.iconst 0, 1) := by decide +kernel
theorem dX8_encodeTape_65 : decode cX8_encodeTape 65 = .ok (.putfield 153, 3) := by decide +kernel
theorem dX8_encodeTape_68 : decode cX8_encodeTape 68 = .ok (.aload_n 0, 1) := by decide +kernel
theorem dX8_encodeTape_69 : decode cX8_encodeTape 69 = .ok (.aload_n 0, 1) := by decide +kernel
theorem dX8_encodeTape_70 : decode cX8_encodeTape 70 = .ok (.getfield 17, 3) := by decide +kernel
theorem dX8_encodeTape_73 : decode cX8_encodeTape 73 = .ok (.bipush 7, 2) := by decide +kernel
theorem dX8_encodeTape_75 : decode cX8_encodeTape 75 = .ok (.iaload, 1) := by decide +kernel
theorem dX8_encodeTape_76 : decode cX8_encodeTape 76 = .ok (.iload_n 1, 1) := by decide +kernel
theorem dX8_encodeTape_77 : decode cX8_encodeTape 77 = .ok (.isub, 1) := by decide +kernel
theorem dX8_encodeTape_78 : decode cX8_encodeTape 78 = .ok (.invokevirtual 73, 3) := by decide +kernel
theorem dX8_encodeTape_81 : decode cX8_encodeTape 81 = .ok (.ireturn, 1) := by decide +kernel
set_option maxRecDepth 20000 in
theorem ggX8_endsAll_X8_writes : GoodIn wsX8_endsAll wsX8_writes := goodIn_r _ [6, 1, 7, 8, 5, 9, 10, 11, 12, 13, 14, 15, 16, 17, 18, 19, 20, 21, 30, 31, 32, 33, 34, 35, 36, 37, 38, 39, 40, 41, 42, 43, 44, 45, 46, 47, 48, 49, 50, 51, 52, 53, 54, 55, 56] (by decide +kernel) (by decide +kernel)
set_option maxRecDepth 20000 in
theorem gX8_endsAll_X8_writes : GoodIn wsX8_endsAll (wsV RX8 92 RX8 yX8_writes wsX8_writes) := goodIn_app (goodIn_of _ (by decide +kernel)) ggX8_endsAll_X8_writes
set_option maxRecDepth 20000 in
theorem ggX8_endsAll_X8_writesClear : GoodIn wsX8_endsAll wsX8_writesClear := goodIn_r _ [25, 1, 14, 15, 16, 5, 17, 2, 3, 4, 6, 7, 8, 9, 10, 11, 12, 13, 18, 19, 20, 21, 26, 27, 28, 29, 30, 31, 32, 33, 34, 35, 36, 37, 38, 39, 40, 41, 42, 43, 44, 45, 46, 47, 48, 49, 50, 51, 52, 53, 54, 55, 56] (by decide +kernel) (by decide +kernel)
set_option maxRecDepth 20000 in
theorem gX8_endsAll_X8_writesClear : GoodIn wsX8_endsAll (wsV RX8 131 RX8 yX8_writesClear wsX8_writesClear) := goodIn_app (goodIn_of _ (by decide +kernel)) ggX8_endsAll_X8_writesClear
theorem dX8_endsAll_0 : decode cX8_endsAll 0 = .ok (.aload_n 0, 1) := by decide +kernel
theorem dX8_endsAll_1 : decode cX8_endsAll 1 = .ok (.getfield 17, 3) := by decide +kernel
theorem dX8_endsAll_4 : decode cX8_endsAll 4 = .ok (.iconst 5, 1) := by decide +kernel
theorem dX8_endsAll_5 : decode cX8_endsAll 5 = .ok (.iaload, 1) := by decide +kernel
theorem dX8_endsAll_6 : decode cX8_endsAll 6 = .ok (.iconst 1, 1) := by decide +kernel
theorem dX8_endsAll_7 : decode cX8_endsAll 7 = .ok (.isub, 1) := by decide +kernel
theorem dX8_endsAll_8 : decode cX8_endsAll 8 = .ok (.istore_n 1, 1) := by decide +kernel
theorem dX8_endsAll_9 : decode cX8_endsAll 9 = .ok (.aload_n 0, 1) := by decide +kernel
theorem dX8_endsAll_10 : decode cX8_endsAll 10 = .ok (.iload_n 1, 1) := by decide +kernel
theorem dX8_endsAll_11 : decode cX8_endsAll 11 = .ok (.invokevirtual 92, 3) := by decide +kernel
theorem dX8_endsAll_14 : decode cX8_endsAll 14 = .ok (.aload_n 0, 1) := by decide +kernel
theorem dX8_endsAll_15 : decode cX8_endsAll 15 = .ok (.invokevirtual 131, 3) := by decide +kernel
theorem dX8_endsAll_18 : decode cX8_endsAll 18 = .ok (.aload_n 0, 1) := by decide +kernel
theorem dX8_endsAll_19 : decode cX8_endsAll 19 = .ok (.getfield 17, 3) := by decide +kernel
theorem dX8_endsAll_22 : decode cX8_endsAll 22 = .ok (.iconst 5, 1) := by decide +kernel
theorem dX8_endsAll_23 : decode cX8_endsAll 23 = .ok (.iconst 0, 1) := by decide +kernel
theorem dX8_endsAll_24 : decode cX8_endsAll 24 = .ok (.iastore, 1) := by decide +kernel
theorem dX8_endsAll_25 : decode cX8_endsAll 25 = .ok (.return_, 1) := by decide +kernel
set_option maxRecDepth 20000 in
theorem ggX8_flush_X8_keepsAside : GoodIn wsX8_flush wsX8_keepsAside := goodIn_r _ [6, 7, 1, 50, 51, 52, 53, 54, 55, 56, 57, 58, 59, 60, 61, 62, 63, 64, 65, 66, 67, 68, 69, 70, 71, 72, 73, 74, 75, 76] (by decide +kernel) (by decide +kernel)
set_option maxRecDepth 20000 in
theorem gX8_flush_X8_keepsAside : GoodIn wsX8_flush (wsV RX8 70 RX8 yX8_keepsAside wsX8_keepsAside) := goodIn_app (goodIn_of _ (by decide +kernel)) ggX8_flush_X8_keepsAside
set_option maxRecDepth 20000 in
theorem ggX8_flush_X8_endsAll : GoodIn wsX8_flush wsX8_endsAll := goodIn_r _ [11, 1, 12, 13, 14, 5, 15, 16, 17, 18, 19, 20, 21, 22, 23, 24, 25, 26, 27, 28, 29, 30, 31, 32, 33, 34, 35, 36, 37, 38, 50, 51, 52, 53, 54, 55, 56, 57, 58, 59, 60, 61, 62, 63, 64, 65, 66, 67, 68, 69, 70, 71, 72, 73, 74, 75, 76] (by decide +kernel) (by decide +kernel)
set_option maxRecDepth 20000 in
theorem gX8_flush_X8_endsAll : GoodIn wsX8_flush (wsV RX8 163 RX8 yX8_endsAll wsX8_endsAll) := goodIn_app (goodIn_of _ (by decide +kernel)) ggX8_flush_X8_endsAll
set_option maxRecDepth 20000 in
theorem ggX8_flush_X8_changed : GoodIn wsX8_flush wsX8_changed := goodIn_r _ [42, 43, 44, 7, 45, 46, 47, 5, 48, 49, 50, 51, 52, 53, 54, 55, 56, 57, 58, 59, 60, 61, 62, 63, 64, 65, 66, 67, 68, 69, 70, 71, 72, 73, 74, 75, 76] (by decide +kernel) (by decide +kernel)
set_option maxRecDepth 20000 in
theorem gX8_flush_X8_changed : GoodIn wsX8_flush (wsV RX8 73 RX8 yX8_changed wsX8_changed) := goodIn_app (goodIn_of _ (by decide +kernel)) ggX8_flush_X8_changed
theorem dX8_flush_0 : decode cX8_flush 0 = .ok (.aload_n 0, 1) := by decide +kernel
theorem dX8_flush_1 : decode cX8_flush 1 = .ok (.invokevirtual 70, 3) := by decide +kernel
theorem dX8_flush_4 : decode cX8_flush 4 = .ok (.aload_n 0, 1) := by decide +kernel
theorem dX8_flush_5 : decode cX8_flush 5 = .ok (.getfield 17, 3) := by decide +kernel
theorem dX8_flush_8 : decode cX8_flush 8 = .ok (.bipush 7, 2) := by decide +kernel
theorem dX8_flush_10 : decode cX8_flush 10 = .ok (.iaload, 1) := by decide +kernel
theorem dX8_flush_11 : decode cX8_flush 11 = .ok (.istore_n 1, 1) := by decide +kernel
theorem dX8_flush_12 : decode cX8_flush 12 = .ok (.aload_n 0, 1) := by decide +kernel
theorem dX8_flush_13 : decode cX8_flush 13 = .ok (.getfield 17, 3) := by decide +kernel
theorem dX8_flush_16 : decode cX8_flush 16 = .ok (.iconst 5, 1) := by decide +kernel
theorem dX8_flush_17 : decode cX8_flush 17 = .ok (.iaload, 1) := by decide +kernel
theorem dX8_flush_18 : decode cX8_flush 18 = .ok (.ifCond .le 7, 3) := by decide +kernel
theorem dX8_flush_21 : decode cX8_flush 21 = .ok (.aload_n 0, 1) := by decide +kernel
theorem dX8_flush_22 : decode cX8_flush 22 = .ok (.invokevirtual 163, 3) := by decide +kernel
theorem dX8_flush_25 : decode cX8_flush 25 = .ok (.aload_n 0, 1) := by decide +kernel
theorem dX8_flush_26 : decode cX8_flush 26 = .ok (.aload_n 0, 1) := by decide +kernel
theorem dX8_flush_27 : decode cX8_flush 27 = .ok (.getfield 17, 3) := by decide +kernel
theorem dX8_flush_30 : decode cX8_flush 30 = .ok (.bipush 7, 2) := by decide +kernel
theorem dX8_flush_32 : decode cX8_flush 32 = .ok (.iaload, 1) := by decide +kernel
theorem dX8_flush_33 : decode cX8_flush 33 = .ok (.iload_n 1, 1) := by decide +kernel
theorem dX8_flush_34 : decode cX8_flush 34 = .ok (.isub, 1) := by decide +kernel
theorem dX8_flush_35 : decode cX8_flush 35 = .ok (.invokevirtual 73, 3) := by decide +kernel
theorem dX8_flush_38 : decode cX8_flush 38 = .ok (.ireturn, 1) := by decide +kernel
set_option maxRecDepth 20000 in
theorem ggX8_starts_X8_clearsAll : GoodIn wsX8_starts wsX8_clearsAll := goodIn_r _ [6, 1, 7, 8, 9, 10, 11, 12, 13, 14, 15, 16, 17, 18, 19, 20, 21, 22, 23, 24, 25, 26, 27, 28, 29, 30, 31, 32, 33] (by decide +kernel) (by decide +kernel)
set_option maxRecDepth 20000 in
theorem gX8_starts_X8_clearsAll : GoodIn wsX8_starts (wsV RX8 96 RX8 yX8_clearsAll wsX8_clearsAll) := goodIn_app (goodIn_of _ (by decide +kernel)) ggX8_starts_X8_clearsAll
theorem dX8_starts_0 : decode cX8_starts 0 = .ok (.aload_n 0, 1) := by decide +kernel
theorem dX8_starts_1 : decode cX8_starts 1 = .ok (.invokevirtual 96, 3) := by decide +kernel
theorem dX8_starts_4 : decode cX8_starts 4 = .ok (.aload_n 0, 1) := by decide +kernel
theorem dX8_starts_5 : decode cX8_starts 5 = .ok (.getfield 17, 3) := by decide +kernel
theorem dX8_starts_8 : decode cX8_starts 8 = .ok (.iconst 5, 1) := by decide +kernel
theorem dX8_starts_9 : decode cX8_starts 9 = .ok (.iconst 0, 1) := by decide +kernel
theorem dX8_starts_10 : decode cX8_starts 10 = .ok (.iastore, 1) := by decide +kernel
theorem dX8_starts_11 : decode cX8_starts 11 = .ok (.aload_n 0, 1) := by decide +kernel
theorem dX8_starts_12 : decode cX8_starts 12 = .ok (.getfield 17, 3) := by decide +kernel
theorem dX8_starts_15 : decode cX8_starts 15 = .ok (.bipush 6, 2) := by decide +kernel
theorem dX8_starts_17 : decode cX8_starts 17 = .ok (.iconst 0, 1) := by decide +kernel
theorem dX8_starts_18 : decode cX8_starts 18 = .ok (.iastore, 1) := by decide +kernel
theorem dX8_starts_19 : decode cX8_starts 19 = .ok (.aload_n 0, 1) := by decide +kernel
theorem dX8_starts_20 : decode cX8_starts 20 = .ok (.getfield 17, 3) := by decide +kernel
theorem dX8_starts_23 : decode cX8_starts 23 = .ok (.bipush 7, 2) := by decide +kernel
theorem dX8_starts_25 : decode cX8_starts 25 = .ok (.iconst 0, 1) := by decide +kernel
theorem dX8_starts_26 : decode cX8_starts 26 = .ok (.iastore, 1) := by decide +kernel
theorem dX8_starts_27 : decode cX8_starts 27 = .ok (.aload_n 0, 1) := by decide +kernel
theorem dX8_starts_28 : decode cX8_starts 28 = .ok (.getfield 17, 3) := by decide +kernel
theorem dX8_starts_31 : decode cX8_starts 31 = .ok (.bipush 8, 2) := by decide +kernel
theorem dX8_starts_33 : decode cX8_starts 33 = .ok (.iconst 0, 1) := by decide +kernel
theorem dX8_starts_34 : decode cX8_starts 34 = .ok (.iastore, 1) := by decide +kernel
theorem dX8_starts_35 : decode cX8_starts 35 = .ok (.aload_n 0, 1) := by decide +kernel
theorem dX8_starts_36 : decode cX8_starts 36 = .ok (.getfield 17, 3) := by decide +kernel
theorem dX8_starts_39 : decode cX8_starts 39 = .ok (.bipush 9, 2) := by decide +kernel
theorem dX8_starts_41 : decode cX8_starts 41 = .ok (.iconst 0, 1) := by decide +kernel
theorem dX8_starts_42 : decode cX8_starts 42 = .ok (.iastore, 1) := by decide +kernel
theorem dX8_starts_43 : decode cX8_starts 43 = .ok (.aload_n 0, 1) := by decide +kernel
theorem dX8_starts_44 : decode cX8_starts 44 = .ok (.getfield 17, 3) := by decide +kernel
theorem dX8_starts_47 : decode cX8_starts 47 = .ok (.bipush 13, 2) := by decide +kernel
theorem dX8_starts_49 : decode cX8_starts 49 = .ok (.iconst 0, 1) := by decide +kernel
theorem dX8_starts_50 : decode cX8_starts 50 = .ok (.iastore, 1) := by decide +kernel
theorem dX8_starts_51 : decode cX8_starts 51 = .ok (.return_, 1) := by decide +kernel
set_option maxRecDepth 20000 in
theorem ggX8_restart_X8_keepsAside : GoodIn wsX8_restart wsX8_keepsAside := goodIn_r _ [6, 7, 1, 27, 28, 29, 30, 31, 32, 33, 34, 35, 36, 37, 38, 39, 40, 41, 42, 43, 44, 45, 46, 47, 48, 49, 50, 51, 52, 53] (by decide +kernel) (by decide +kernel)
set_option maxRecDepth 20000 in
theorem gX8_restart_X8_keepsAside : GoodIn wsX8_restart (wsV RX8 70 RX8 yX8_keepsAside wsX8_keepsAside) := goodIn_app (goodIn_of _ (by decide +kernel)) ggX8_restart_X8_keepsAside
set_option maxRecDepth 20000 in
theorem ggX8_restart_X8_starts : GoodIn wsX8_restart wsX8_starts := goodIn_r _ [11, 1, 12, 13, 14, 5, 15, 27, 28, 29, 30, 31, 32, 33, 34, 35, 36, 37, 38, 39, 40, 41, 42, 43, 44, 45, 46, 47, 48, 49, 50, 51, 52, 53] (by decide +kernel) (by decide +kernel)
set_option maxRecDepth 20000 in
theorem gX8_restart_X8_starts : GoodIn wsX8_restart (wsV RX8 166 RX8 yX8_starts wsX8_starts) := goodIn_app (goodIn_of _ (by decide +kernel)) ggX8_restart_X8_starts
set_option maxRecDepth 20000 in
theorem ggX8_restart_X8_changed : GoodIn wsX8_restart wsX8_changed := goodIn_r _ [19, 20, 21, 7, 22, 23, 24, 5, 25, 26, 27, 28, 29, 30, 31, 32, 33, 34, 35, 36, 37, 38, 39, 40, 41, 42, 43, 44, 45, 46, 47, 48, 49, 50, 51, 52, 53] (by decide +kernel) (by decide +kernel)
set_option maxRecDepth 20000 in
theorem gX8_restart_X8_changed : GoodIn wsX8_restart (wsV RX8 73 RX8 yX8_changed wsX8_changed) := goodIn_app (goodIn_of _ (by decide +kernel)) ggX8_restart_X8_changed
theorem dX8_restart_0 : decode cX8_restart 0 = .ok (.aload_n 0, 1) := by decide +kernel
theorem dX8_restart_1 : decode cX8_restart 1 = .ok (.invokevirtual 70, 3) := by decide +kernel
theorem dX8_restart_4 : decode cX8_restart 4 = .ok (.aload_n 0, 1) := by decide +kernel
theorem dX8_restart_5 : decode cX8_restart 5 = .ok (.getfield 17, 3) := by decide +kernel
theorem dX8_restart_8 : decode cX8_restart 8 = .ok (.bipush 7, 2) := by decide +kernel
theorem dX8_restart_10 : decode cX8_restart 10 = .ok (.iaload, 1) := by decide +kernel
theorem dX8_restart_11 : decode cX8_restart 11 = .ok (.istore_n 1, 1) := by decide +kernel
theorem dX8_restart_12 : decode cX8_restart 12 = .ok (.aload_n 0, 1) := by decide +kernel
theorem dX8_restart_13 : decode cX8_restart 13 = .ok (.invokevirtual 166, 3) := by decide +kernel
theorem dX8_restart_16 : decode cX8_restart 16 = .ok (.aload_n 0, 1) := by decide +kernel
theorem dX8_restart_17 : decode cX8_restart 17 = .ok (.iload_n 1, 1) := by decide +kernel
theorem dX8_restart_18 : decode cX8_restart 18 = .ok (.invokevirtual 73, 3) := by decide +kernel
theorem dX8_restart_21 : decode cX8_restart 21 = .ok (.ireturn, 1) := by decide +kernel
set_option maxRecDepth 20000 in
theorem ggX8_setPolicy_X8_in : GoodIn wsX8_setPolicy wsX8_in := goodIn_r _ [5] (by decide +kernel) (by decide +kernel)
set_option maxRecDepth 20000 in
theorem gX8_setPolicy_X8_in : GoodIn wsX8_setPolicy (va_wsS RX8 62 yX8_in wsX8_in) := goodIn_app (goodIn_of _ (by decide +kernel)) ggX8_setPolicy_X8_in
set_option maxRecDepth 20000 in
theorem ggX8_setPolicy_X8_throwing : GoodIn wsX8_setPolicy wsX8_throwing := goodIn_r _ [9, 10, 26, 27, 28, 29, 30, 31, 32, 33, 34, 35, 36, 37, 38, 39, 40, 41, 42, 43, 44, 45, 46, 47, 48, 49, 50, 51, 52] (by decide +kernel) (by decide +kernel)
set_option maxRecDepth 20000 in
theorem gX8_setPolicy_X8_throwing : GoodIn wsX8_setPolicy (wsV RX8 59 RX8 yX8_throwing wsX8_throwing) := goodIn_app (goodIn_of _ (by decide +kernel)) ggX8_setPolicy_X8_throwing
set_option maxRecDepth 20000 in
theorem ggX8_setPolicy_X8_keepsAside : GoodIn wsX8_setPolicy wsX8_keepsAside := goodIn_r _ [14, 15, 1, 26, 27, 28, 29, 30, 31, 32, 33, 34, 35, 36, 37, 38, 39, 40, 41, 42, 43, 44, 45, 46, 47, 48, 49, 50, 51, 52] (by decide +kernel) (by decide +kernel)
set_option maxRecDepth 20000 in
theorem gX8_setPolicy_X8_keepsAside : GoodIn wsX8_setPolicy (wsV RX8 70 RX8 yX8_keepsAside wsX8_keepsAside) := goodIn_app (goodIn_of _ (by decide +kernel)) ggX8_setPolicy_X8_keepsAside
set_option maxRecDepth 20000 in
theorem ggX8_setPolicy_X8_changed : GoodIn wsX8_setPolicy wsX8_changed := goodIn_r _ [19, 20, 21, 15, 22, 23, 24, 4, 25, 10, 26, 27, 28, 29, 30, 31, 32, 33, 34, 35, 36, 37, 38, 39, 40, 41, 42, 43, 44, 45, 46, 47, 48, 49, 50, 51, 52] (by decide +kernel) (by decide +kernel)
set_option maxRecDepth 20000 in
theorem gX8_setPolicy_X8_changed : GoodIn wsX8_setPolicy (wsV RX8 73 RX8 yX8_changed wsX8_changed) := goodIn_app (goodIn_of _ (by decide +kernel)) ggX8_setPolicy_X8_changed
theorem dX8_setPolicy_0 : decode cX8_setPolicy 0 = .ok (.iload_n 1, 1) := by decide +kernel
theorem dX8_setPolicy_1 : decode cX8_setPolicy 1 = .ok (.iconst 0, 1) := by decide +kernel
theorem dX8_setPolicy_2 : decode cX8_setPolicy 2 = .ok (.iconst 2, 1) := by decide +kernel
theorem dX8_setPolicy_3 : decode cX8_setPolicy 3 = .ok (.invokestatic 62, 3) := by decide +kernel
theorem dX8_setPolicy_6 : decode cX8_setPolicy 6 = .ok (.ifCond .ne 9, 3) := by decide +kernel
theorem dX8_setPolicy_9 : decode cX8_setPolicy 9 = .ok (.aload_n 0, 1) := by decide +kernel
theorem dX8_setPolicy_10 : decode cX8_setPolicy 10 = .ok (.iconst 1, 1) := by decide +kernel
theorem dX8_setPolicy_11 : decode cX8_setPolicy 11 = .ok (.invokevirtual 59, 3) := by decide +kernel
theorem dX8_setPolicy_14 : decode cX8_setPolicy 14 = .ok (.ireturn, 1) := by decide +kernel
theorem dX8_setPolicy_15 : decode cX8_setPolicy 15 = .ok (.aload_n 0, 1) := by decide +kernel
theorem dX8_setPolicy_16 : decode cX8_setPolicy 16 = .ok (.invokevirtual 70, 3) := by decide +kernel
theorem dX8_setPolicy_19 : decode cX8_setPolicy 19 = .ok (.aload_n 0, 1) := by decide +kernel
theorem dX8_setPolicy_20 : decode cX8_setPolicy 20 = .ok (.getfield 17, 3) := by decide +kernel
theorem dX8_setPolicy_23 : decode cX8_setPolicy 23 = .ok (.iconst 2, 1) := by decide +kernel
theorem dX8_setPolicy_24 : decode cX8_setPolicy 24 = .ok (.iaload, 1) := by decide +kernel
theorem dX8_setPolicy_25 : decode cX8_setPolicy 25 = .ok (.istore_n 2, 1) := by decide +kernel
theorem dX8_setPolicy_26 : decode cX8_setPolicy 26 = .ok (.aload_n 0, 1) := by decide +kernel
theorem dX8_setPolicy_27 : decode cX8_setPolicy 27 = .ok (.getfield 17, 3) := by decide +kernel
theorem dX8_setPolicy_30 : decode cX8_setPolicy 30 = .ok (.iconst 2, 1) := by decide +kernel
theorem dX8_setPolicy_31 : decode cX8_setPolicy 31 = .ok (.iload_n 1, 1) := by decide +kernel
theorem dX8_setPolicy_32 : decode cX8_setPolicy 32 = .ok (.iastore, 1) := by decide +kernel
theorem dX8_setPolicy_33 : decode cX8_setPolicy 33 = .ok (.aload_n 0, 1) := by decide +kernel
theorem dX8_setPolicy_34 : decode cX8_setPolicy 34 = .ok (.iload_n 2, 1) := by decide +kernel
theorem dX8_setPolicy_35 : decode cX8_setPolicy 35 = .ok (.invokevirtual 73, 3) := by decide +kernel
theorem dX8_setPolicy_38 : decode cX8_setPolicy 38 = .ok (.ireturn, 1) := by decide +kernel
set_option maxRecDepth 20000 in
theorem ggX8_isPercent_X8_in : GoodIn wsX8_isPercent wsX8_in := goodIn_r _ [4] (by decide +kernel) (by decide +kernel)
set_option maxRecDepth 20000 in
theorem gX8_isPercent_X8_in : GoodIn wsX8_isPercent (va_wsS RX8 62 yX8_in wsX8_in) := goodIn_app (goodIn_of _ (by decide +kernel)) ggX8_isPercent_X8_in
theorem dX8_isPercent_0 : decode cX8_isPercent 0 = .ok (.iload_n 0, 1) := by decide +kernel
theorem dX8_isPercent_1 : decode cX8_isPercent 1 = .ok (.iconst 1, 1) := by decide +kernel
theorem dX8_isPercent_2 : decode cX8_isPercent 2 = .ok (.sipush 200, 3) := by decide +kernel
theorem dX8_isPercent_5 : decode cX8_isPercent 5 = .ok (.invokestatic 62, 3) := by decide +kernel
theorem dX8_isPercent_8 : decode cX8_isPercent 8 = .ok (.ireturn, 1) := by decide +kernel
set_option maxRecDepth 20000 in
theorem ggX8_setLimit_X8_isPercent : GoodIn wsX8_setLimit wsX8_isPercent := goodIn_r _ [5, 6, 7, 4, 8] (by decide +kernel) (by decide +kernel)
set_option maxRecDepth 20000 in
theorem gX8_setLimit_X8_isPercent : GoodIn wsX8_setLimit (va_wsS RX8 169 yX8_isPercent wsX8_isPercent) := goodIn_app (goodIn_of _ (by decide +kernel)) ggX8_setLimit_X8_isPercent
set_option maxRecDepth 20000 in
theorem ggX8_setLimit_X8_throwing : GoodIn wsX8_setLimit wsX8_throwing := goodIn_r _ [12, 13, 29, 30, 31, 32, 33, 34, 35, 36, 37, 38, 39, 40, 41, 42, 43, 44, 45, 46, 47, 48, 49, 50, 51, 52, 53, 54, 55] (by decide +kernel) (by decide +kernel)
set_option maxRecDepth 20000 in
theorem gX8_setLimit_X8_throwing : GoodIn wsX8_setLimit (wsV RX8 59 RX8 yX8_throwing wsX8_throwing) := goodIn_app (goodIn_of _ (by decide +kernel)) ggX8_setLimit_X8_throwing
set_option maxRecDepth 20000 in
theorem ggX8_setLimit_X8_keepsAside : GoodIn wsX8_setLimit wsX8_keepsAside := goodIn_r _ [17, 18, 1, 29, 30, 31, 32, 33, 34, 35, 36, 37, 38, 39, 40, 41, 42, 43, 44, 45, 46, 47, 48, 49, 50, 51, 52, 53, 54, 55] (by decide +kernel) (by decide +kernel)
set_option maxRecDepth 20000 in
theorem gX8_setLimit_X8_keepsAside : GoodIn wsX8_setLimit (wsV RX8 70 RX8 yX8_keepsAside wsX8_keepsAside) := goodIn_app (goodIn_of _ (by decide +kernel)) ggX8_setLimit_X8_keepsAside
set_option maxRecDepth 20000 in
theorem ggX8_setLimit_X8_changed : GoodIn wsX8_setLimit wsX8_changed := goodIn_r _ [22, 23, 24, 18, 25, 26, 27, 4, 28, 13, 29, 30, 31, 32, 33, 34, 35, 36, 37, 38, 39, 40, 41, 42, 43, 44, 45, 46, 47, 48, 49, 50, 51, 52, 53, 54, 55] (by decide +kernel) (by decide +kernel)
set_option maxRecDepth 20000 in
theorem gX8_setLimit_X8_changed : GoodIn wsX8_setLimit (wsV RX8 73 RX8 yX8_changed wsX8_changed) := goodIn_app (goodIn_of _ (by decide +kernel)) ggX8_setLimit_X8_changed
theorem dX8_setLimit_0 : decode cX8_setLimit 0 = .ok (.iload_n 1, 1) := by decide +kernel
theorem dX8_setLimit_1 : decode cX8_setLimit 1 = .ok (.invokestatic 169, 3) := by decide +kernel
theorem dX8_setLimit_4 : decode cX8_setLimit 4 = .ok (.ifCond .ne 9, 3) := by decide +kernel
theorem dX8_setLimit_7 : decode cX8_setLimit 7 = .ok (.aload_n 0, 1) := by decide +kernel
theorem dX8_setLimit_8 : decode cX8_setLimit 8 = .ok (.iconst 1, 1) := by decide +kernel
theorem dX8_setLimit_9 : decode cX8_setLimit 9 = .ok (.invokevirtual 59, 3) := by decide +kernel
theorem dX8_setLimit_12 : decode cX8_setLimit 12 = .ok (.ireturn, 1) := by decide +kernel
theorem dX8_setLimit_13 : decode cX8_setLimit 13 = .ok (.aload_n 0, 1) := by decide +kernel
theorem dX8_setLimit_14 : decode cX8_setLimit 14 = .ok (.invokevirtual 70, 3) := by decide +kernel
theorem dX8_setLimit_17 : decode cX8_setLimit 17 = .ok (.aload_n 0, 1) := by decide +kernel
theorem dX8_setLimit_18 : decode cX8_setLimit 18 = .ok (.getfield 17, 3) := by decide +kernel
theorem dX8_setLimit_21 : decode cX8_setLimit 21 = .ok (.iconst 3, 1) := by decide +kernel
theorem dX8_setLimit_22 : decode cX8_setLimit 22 = .ok (.iaload, 1) := by decide +kernel
theorem dX8_setLimit_23 : decode cX8_setLimit 23 = .ok (.istore_n 2, 1) := by decide +kernel
theorem dX8_setLimit_24 : decode cX8_setLimit 24 = .ok (.aload_n 0, 1) := by decide +kernel
theorem dX8_setLimit_25 : decode cX8_setLimit 25 = .ok (.getfield 17, 3) := by decide +kernel
theorem dX8_setLimit_28 : decode cX8_setLimit 28 = .ok (.iconst 3, 1) := by decide +kernel
theorem dX8_setLimit_29 : decode cX8_setLimit 29 = .ok (.iload_n 1, 1) := by decide +kernel
theorem dX8_setLimit_30 : decode cX8_setLimit 30 = .ok (.iastore, 1) := by decide +kernel
theorem dX8_setLimit_31 : decode cX8_setLimit 31 = .ok (.aload_n 0, 1) := by decide +kernel
theorem dX8_setLimit_32 : decode cX8_setLimit 32 = .ok (.iload_n 2, 1) := by decide +kernel
theorem dX8_setLimit_33 : decode cX8_setLimit 33 = .ok (.invokevirtual 73, 3) := by decide +kernel
theorem dX8_setLimit_36 : decode cX8_setLimit 36 = .ok (.ireturn, 1) := by decide +kernel
theorem dX8_startsDecoder_0 : decode cX8_startsDecoder 0 = .ok (.aload_n 0, 1) := by decide +kernel
theorem dX8_startsDecoder_1 : decode cX8_startsDecoder 1 = .ok (.aload_n 0, 1) := by decide +kernel
theorem dX8_startsDecoder_2 : decode cX8_startsDecoder 2 = .ok (.getfield 17, 3) := by decide +kernel
theorem dX8_startsDecoder_5 : decode cX8_startsDecoder 5 = .ok (.iconst 0, 1) := by decide +kernel
theorem dX8_startsDecoder_6 : decode cX8_startsDecoder 6 = .ok (.iaload, 1) := by decide +kernel
theorem dX8_startsDecoder_7 : decode cX8_startsDecoder 7 = .ok (.iconst 1, 1) := by decide +kernel
theorem dX8_startsDecoder_8 : decode cX8_startsDecoder 8 = .ok (.iadd, 1) := by decide +kernel
theorem dX8_startsDecoder_9 : decode cX8_startsDecoder 9 = .ok (.putfield 172, 3) := by decide +kernel
theorem dX8_startsDecoder_12 : decode cX8_startsDecoder 12 = .ok (.aload_n 0, 1) := by decide +kernel
theorem dX8_startsDecoder_13 : decode cX8_startsDecoder 13 = .ok (.iconst (-1), 1) := by decide +kernel
theorem dX8_startsDecoder_14 : decode cX8_startsDecoder 14 = .ok (.putfield 175, 3) := by decide +kernel
theorem dX8_startsDecoder_17 : decode cX8_startsDecoder 17 = .ok (.aload_n 0, 1) := by decide +kernel
theorem dX8_startsDecoder_18 : decode cX8_startsDecoder 18 = .ok (.iconst 0, 1) := by decide +kernel
theorem dX8_startsDecoder_19 : decode cX8_startsDecoder 19 = .ok (.putfield 178, 3) := by decide +kernel
theorem dX8_startsDecoder_22 : decode cX8_startsDecoder 22 = .ok (.return_, 1) := by decide +kernel
set_option maxRecDepth 20000 in
theorem ggX8_seenLength_X8_isFirst : GoodIn wsX8_seenLength wsX8_isFirst := goodIn_r _ [6, 7, 8, 9, 5, 10, 11, 12, 13, 14, 15, 16, 17, 18, 19, 20, 21, 22, 23, 24, 25, 26, 27, 28, 29, 30, 31, 32, 33, 34, 35, 36, 37, 38] (by decide +kernel) (by decide +kernel)
set_option maxRecDepth 20000 in
theorem gX8_seenLength_X8_isFirst : GoodIn wsX8_seenLength (wsV RX8 83 RX8 yX8_isFirst wsX8_isFirst) := goodIn_app (goodIn_of _ (by decide +kernel)) ggX8_seenLength_X8_isFirst
theorem dX8_seenLength_0 : decode cX8_seenLength 0 = .ok (.iconst 1, 1) := by decide +kernel
theorem dX8_seenLength_1 : decode cX8_seenLength 1 = .ok (.istore_n 2, 1) := by decide +kernel
theorem dX8_seenLength_2 : decode cX8_seenLength 2 = .ok (.iload_n 1, 1) := by decide +kernel
theorem dX8_seenLength_3 : decode cX8_seenLength 3 = .ok (.istore_n 3, 1) := by decide +kernel
theorem dX8_seenLength_4 : decode cX8_seenLength 4 = .ok (.aload_n 0, 1) := by decide +kernel
theorem dX8_seenLength_5 : decode cX8_seenLength 5 = .ok (.iload_n 3, 1) := by decide +kernel
theorem dX8_seenLength_6 : decode cX8_seenLength 6 = .ok (.invokevirtual 83, 3) := by decide +kernel
theorem dX8_seenLength_9 : decode cX8_seenLength 9 = .ok (.ifCond .ne 16, 3) := by decide +kernel
theorem dX8_seenLength_12 : decode cX8_seenLength 12 = .ok (.iinc 2 1, 3) := by decide +kernel
theorem dX8_seenLength_15 : decode cX8_seenLength 15 = .ok (.aload_n 0, 1) := by decide +kernel
theorem dX8_seenLength_16 : decode cX8_seenLength 16 = .ok (.getfield 34, 3) := by decide +kernel
theorem dX8_seenLength_19 : decode cX8_seenLength 19 = .ok (.iload_n 3, 1) := by decide +kernel
theorem dX8_seenLength_20 : decode cX8_seenLength 20 = .ok (.iaload, 1) := by decide +kernel
theorem dX8_seenLength_21 : decode cX8_seenLength 21 = .ok (.istore_n 3, 1) := by decide +kernel
theorem dX8_seenLength_22 : decode cX8_seenLength 22 = .ok (.goto (-18), 3) := by decide +kernel
theorem dX8_seenLength_25 : decode cX8_seenLength 25 = .ok (.iload_n 2, 1) := by decide +kernel
theorem dX8_seenLength_26 : decode cX8_seenLength 26 = .ok (.ireturn, 1) := by decide +kernel
set_option maxRecDepth 20000 in
theorem ggX8_seenFirst_X8_isFirst : GoodIn wsX8_seenFirst wsX8_isFirst := goodIn_r _ [6, 7, 8, 9, 5, 10, 11, 12, 13, 14, 15, 16, 17, 18, 19, 20, 21, 22, 23, 24, 25, 26, 27, 28, 29, 30, 31, 32, 33, 34, 35, 36, 37, 38] (by decide +kernel) (by decide +kernel)
set_option maxRecDepth 20000 in
theorem gX8_seenFirst_X8_isFirst : GoodIn wsX8_seenFirst (wsV RX8 83 RX8 yX8_isFirst wsX8_isFirst) := goodIn_app (goodIn_of _ (by decide +kernel)) ggX8_seenFirst_X8_isFirst
theorem dX8_seenFirst_0 : decode cX8_seenFirst 0 = .ok (.iload_n 1, 1) := by decide +kernel
theorem dX8_seenFirst_1 : decode cX8_seenFirst 1 = .ok (.istore_n 2, 1) := by decide +kernel
theorem dX8_seenFirst_2 : decode cX8_seenFirst 2 = .ok (.aload_n 0, 1) := by decide +kernel
theorem dX8_seenFirst_3 : decode cX8_seenFirst 3 = .ok (.iload_n 2, 1) := by decide +kernel
theorem dX8_seenFirst_4 : decode cX8_seenFirst 4 = .ok (.invokevirtual 83, 3) := by decide +kernel
theorem dX8_seenFirst_7 : decode cX8_seenFirst 7 = .ok (.ifCond .ne 13, 3) := by decide +kernel
theorem dX8_seenFirst_10 : decode cX8_seenFirst 10 = .ok (.aload_n 0, 1) := by decide +kernel
theorem dX8_seenFirst_11 : decode cX8_seenFirst 11 = .ok (.getfield 34, 3) := by decide +kernel
theorem dX8_seenFirst_14 : decode cX8_seenFirst 14 = .ok (.iload_n 2, 1) := by decide +kernel
theorem dX8_seenFirst_15 : decode cX8_seenFirst 15 = .ok (.iaload, 1) := by decide +kernel
theorem dX8_seenFirst_16 : decode cX8_seenFirst 16 = .ok (.istore_n 2, 1) := by decide +kernel
theorem dX8_seenFirst_17 : decode cX8_seenFirst 17 = .ok (.goto (-15), 3) := by decide +kernel
theorem dX8_seenFirst_20 : decode cX8_seenFirst 20 = .ok (.iload_n 2, 1) := by decide +kernel
theorem dX8_seenFirst_21 : decode cX8_seenFirst 21 = .ok (.ireturn, 1) := by decide +kernel
set_option maxRecDepth 20000 in
theorem ggX8_seenLonger_X8_clear : GoodIn wsX8_seenLonger wsX8_clear := goodIn_r _ [8, 9, 10, 11, 12, 13, 14, 15, 16, 17, 18, 19, 20, 21, 22, 23, 24, 25, 26, 27, 28, 29, 30, 31, 32, 33, 34, 35, 36] (by decide +kernel) (by decide +kernel)
set_option maxRecDepth 20000 in
theorem gX8_seenLonger_X8_clear : GoodIn wsX8_seenLonger (wsV RX8 80 RX8 yX8_clear wsX8_clear) := goodIn_app (goodIn_of _ (by decide +kernel)) ggX8_seenLonger_X8_clear
theorem dX8_seenLonger_0 : decode cX8_seenLonger 0 = .ok (.aload_n 0, 1) := by decide +kernel
theorem dX8_seenLonger_1 : decode cX8_seenLonger 1 = .ok (.invokevirtual 80, 3) := by decide +kernel
theorem dX8_seenLonger_4 : decode cX8_seenLonger 4 = .ok (.iconst 1, 1) := by decide +kernel
theorem dX8_seenLonger_5 : decode cX8_seenLonger 5 = .ok (.iadd, 1) := by decide +kernel
theorem dX8_seenLonger_6 : decode cX8_seenLonger 6 = .ok (.istore_n 3, 1) := by decide +kernel
theorem dX8_seenLonger_7 : decode cX8_seenLonger 7 = .ok (.iload_n 3, 1) := by decide +kernel
theorem dX8_seenLonger_8 : decode cX8_seenLonger 8 = .ok (.aload_n 0, 1) := by decide +kernel
theorem dX8_seenLonger_9 : decode cX8_seenLonger 9 = .ok (.getfield 172, 3) := by decide +kernel
theorem dX8_seenLonger_12 : decode cX8_seenLonger 12 = .ok (.if_icmp .ge 31, 3) := by decide +kernel
theorem dX8_seenLonger_15 : decode cX8_seenLonger 15 = .ok (.aload_n 0, 1) := by decide +kernel
theorem dX8_seenLonger_16 : decode cX8_seenLonger 16 = .ok (.getfield 34, 3) := by decide +kernel
theorem dX8_seenLonger_19 : decode cX8_seenLonger 19 = .ok (.iload_n 3, 1) := by decide +kernel
theorem dX8_seenLonger_20 : decode cX8_seenLonger 20 = .ok (.iaload, 1) := by decide +kernel
theorem dX8_seenLonger_21 : decode cX8_seenLonger 21 = .ok (.iload_n 1, 1) := by decide +kernel
theorem dX8_seenLonger_22 : decode cX8_seenLonger 22 = .ok (.if_icmp .ne 15, 3) := by decide +kernel
theorem dX8_seenLonger_25 : decode cX8_seenLonger 25 = .ok (.aload_n 0, 1) := by decide +kernel
theorem dX8_seenLonger_26 : decode cX8_seenLonger 26 = .ok (.getfield 37, 3) := by decide +kernel
theorem dX8_seenLonger_29 : decode cX8_seenLonger 29 = .ok (.iload_n 3, 1) := by decide +kernel
theorem dX8_seenLonger_30 : decode cX8_seenLonger 30 = .ok (.iaload, 1) := by decide +kernel
theorem dX8_seenLonger_31 : decode cX8_seenLonger 31 = .ok (.iload_n 2, 1) := by decide +kernel
theorem dX8_seenLonger_32 : decode cX8_seenLonger 32 = .ok (.if_icmp .ne 5, 3) := by decide +kernel
theorem dX8_seenLonger_35 : decode cX8_seenLonger 35 = .ok (.iload_n 3, 1) := by decide +kernel
theorem dX8_seenLonger_36 : decode cX8_seenLonger 36 = .ok (.ireturn, 1) := by decide +kernel
theorem dX8_seenLonger_37 : decode cX8_seenLonger 37 = .ok (.iinc 3 1, 3) := by decide +kernel
theorem dX8_seenLonger_40 : decode cX8_seenLonger 40 = .ok (.goto (-33), 3) := by decide +kernel
theorem dX8_seenLonger_43 : decode cX8_seenLonger 43 = .ok (.iconst (-1), 1) := by decide +kernel
theorem dX8_seenLonger_44 : decode cX8_seenLonger 44 = .ok (.ireturn, 1) := by decide +kernel
set_option maxRecDepth 20000 in
theorem ggX8_seesLonger_X8_seenLonger : GoodIn wsX8_seesLonger wsX8_seenLonger := goodIn_r _ [9, 3, 2, 4, 10, 11, 12, 8, 13, 14, 15, 16, 17, 18, 19, 20, 21, 22, 23, 24, 25, 26, 27, 28, 29, 30, 31, 32, 33, 34, 35, 36, 37, 38, 39, 40, 41] (by decide +kernel) (by decide +kernel)
set_option maxRecDepth 20000 in
theorem gX8_seesLonger_X8_seenLonger : GoodIn wsX8_seesLonger (wsV RX8 181 RX8 yX8_seenLonger wsX8_seenLonger) := goodIn_app (goodIn_of _ (by decide +kernel)) ggX8_seesLonger_X8_seenLonger
theorem dX8_seesLonger_0 : decode cX8_seesLonger 0 = .ok (.aload_n 0, 1) := by decide +kernel
theorem dX8_seesLonger_1 : decode cX8_seesLonger 1 = .ok (.aload_n 0, 1) := by decide +kernel
theorem dX8_seesLonger_2 : decode cX8_seesLonger 2 = .ok (.getfield 175, 3) := by decide +kernel
theorem dX8_seesLonger_5 : decode cX8_seesLonger 5 = .ok (.iload_n 1, 1) := by decide +kernel
theorem dX8_seesLonger_6 : decode cX8_seesLonger 6 = .ok (.invokevirtual 181, 3) := by decide +kernel
theorem dX8_seesLonger_9 : decode cX8_seesLonger 9 = .ok (.istore_n 2, 1) := by decide +kernel
theorem dX8_seesLonger_10 : decode cX8_seesLonger 10 = .ok (.iload_n 2, 1) := by decide +kernel
theorem dX8_seesLonger_11 : decode cX8_seesLonger 11 = .ok (.ifCond .lt 5, 3) := by decide +kernel
theorem dX8_seesLonger_14 : decode cX8_seesLonger 14 = .ok (.iload_n 2, 1) := by decide +kernel
theorem dX8_seesLonger_15 : decode cX8_seesLonger 15 = .ok (.ireturn, 1) := by decide +kernel
theorem dX8_seesLonger_16 : decode cX8_seesLonger 16 = .ok (.aload_n 0, 1) := by decide +kernel
theorem dX8_seesLonger_17 : decode cX8_seesLonger 17 = .ok (.getfield 34, 3) := by decide +kernel
theorem dX8_seesLonger_20 : decode cX8_seesLonger 20 = .ok (.aload_n 0, 1) := by decide +kernel
theorem dX8_seesLonger_21 : decode cX8_seesLonger 21 = .ok (.getfield 172, 3) := by decide +kernel
theorem dX8_seesLonger_24 : decode cX8_seesLonger 24 = .ok (.aload_n 0, 1) := by decide +kernel
theorem dX8_seesLonger_25 : decode cX8_seesLonger 25 = .ok (.getfield 175, 3) := by decide +kernel
theorem dX8_seesLonger_28 : decode cX8_seesLonger 28 = .ok (.iastore, 1) := by decide +kernel
theorem dX8_seesLonger_29 : decode cX8_seesLonger 29 = .ok (.aload_n 0, 1) := by decide +kernel
theorem dX8_seesLonger_30 : decode cX8_seesLonger 30 = .ok (.getfield 37, 3) := by decide +kernel
theorem dX8_seesLonger_33 : decode cX8_seesLonger 33 = .ok (.aload_n 0, 1) := by decide +kernel
theorem dX8_seesLonger_34 : decode cX8_seesLonger 34 = .ok (.getfield 172, 3) := by decide +kernel
theorem dX8_seesLonger_37 : decode cX8_seesLonger 37 = .ok (.iload_n 1, 1) := by decide +kernel
theorem dX8_seesLonger_38 : decode cX8_seesLonger 38 = .ok (.iastore, 1) := by decide +kernel
theorem dX8_seesLonger_39 : decode cX8_seesLonger 39 = .ok (.aload_n 0, 1) := by decide +kernel
theorem dX8_seesLonger_40 : decode cX8_seesLonger 40 = .ok (.dup, 1) := by decide +kernel
theorem dX8_seesLonger_41 : decode cX8_seesLonger 41 = .ok (.getfield 172, 3) := by decide +kernel
theorem dX8_seesLonger_44 : decode cX8_seesLonger 44 = .ok (.iconst 1, 1) := by decide +kernel
theorem dX8_seesLonger_45 : decode cX8_seesLonger 45 = .ok (.iadd, 1) := by decide +kernel
theorem dX8_seesLonger_46 : decode cX8_seesLonger 46 = .ok (.putfield 172, 3) := by decide +kernel
theorem dX8_seesLonger_49 : decode cX8_seesLonger 49 = .ok (.aload_n 0, 1) := by decide +kernel
theorem dX8_seesLonger_50 : decode cX8_seesLonger 50 = .ok (.getfield 172, 3) := by decide +kernel
theorem dX8_seesLonger_53 : decode cX8_seesLonger 53 = .ok (.iconst 1, 1) := by decide +kernel
theorem dX8_seesLonger_54 : decode cX8_seesLonger 54 = .ok (.isub, 1) := by decide +kernel
theorem dX8_seesLonger_55 : decode cX8_seesLonger 55 = .ok (.ireturn, 1) := by decide +kernel
set_option maxRecDepth 20000 in
theorem ggX8_gains_X8_seenLength : GoodIn wsX8_gains wsX8_seenLength := goodIn_r _ [9, 4, 10, 11, 12, 8, 13, 14, 15, 16, 17, 18, 19, 20, 21, 22, 23, 24, 25, 26, 27, 28, 29, 30, 31, 32, 33, 34, 35, 36, 37, 38, 39, 40, 41, 42, 43, 44, 45] (by decide +kernel) (by decide +kernel)
set_option maxRecDepth 20000 in
theorem gX8_gains_X8_seenLength : GoodIn wsX8_gains (wsV RX8 184 RX8 yX8_seenLength wsX8_seenLength) := goodIn_app (goodIn_of _ (by decide +kernel)) ggX8_gains_X8_seenLength
theorem dX8_gains_0 : decode cX8_gains 0 = .ok (.aload_n 0, 1) := by decide +kernel
theorem dX8_gains_1 : decode cX8_gains 1 = .ok (.iload_n 1, 1) := by decide +kernel
theorem dX8_gains_2 : decode cX8_gains 2 = .ok (.invokevirtual 184, 3) := by decide +kernel
theorem dX8_gains_5 : decode cX8_gains 5 = .ok (.istore_n 2, 1) := by decide +kernel
theorem dX8_gains_6 : decode cX8_gains 6 = .ok (.iload_n 1, 1) := by decide +kernel
theorem dX8_gains_7 : decode cX8_gains 7 = .ok (.istore_n 3, 1) := by decide +kernel
theorem dX8_gains_8 : decode cX8_gains 8 = .ok (.iload_n 2, 1) := by decide +kernel
theorem dX8_gains_9 : decode cX8_gains 9 = .ok (.iconst 1, 1) := by decide +kernel
theorem dX8_gains_10 : decode cX8_gains 10 = .ok (.isub, 1) := by decide +kernel
theorem dX8_gains_11 : decode cX8_gains 11 = .ok (.istore 4, 2) := by decide +kernel
theorem dX8_gains_13 : decode cX8_gains 13 = .ok (.iload 4, 2) := by decide +kernel
theorem dX8_gains_15 : decode cX8_gains 15 = .ok (.ifCond .le 34, 3) := by decide +kernel
theorem dX8_gains_18 : decode cX8_gains 18 = .ok (.aload_n 0, 1) := by decide +kernel
theorem dX8_gains_19 : decode cX8_gains 19 = .ok (.getfield 40, 3) := by decide +kernel
theorem dX8_gains_22 : decode cX8_gains 22 = .ok (.aload_n 0, 1) := by decide +kernel
theorem dX8_gains_23 : decode cX8_gains 23 = .ok (.getfield 178, 3) := by decide +kernel
theorem dX8_gains_26 : decode cX8_gains 26 = .ok (.iload 4, 2) := by decide +kernel
theorem dX8_gains_28 : decode cX8_gains 28 = .ok (.iadd, 1) := by decide +kernel
theorem dX8_gains_29 : decode cX8_gains 29 = .ok (.aload_n 0, 1) := by decide +kernel
theorem dX8_gains_30 : decode cX8_gains 30 = .ok (.getfield 37, 3) := by decide +kernel
theorem dX8_gains_33 : decode cX8_gains 33 = .ok (.iload_n 3, 1) := by decide +kernel
theorem dX8_gains_34 : decode cX8_gains 34 = .ok (.iaload, 1) := by decide +kernel
theorem dX8_gains_35 : decode cX8_gains 35 = .ok (.iastore, 1) := by decide +kernel
theorem dX8_gains_36 : decode cX8_gains 36 = .ok (.aload_n 0, 1) := by decide +kernel
theorem dX8_gains_37 : decode cX8_gains 37 = .ok (.getfield 34, 3) := by decide +kernel
theorem dX8_gains_40 : decode cX8_gains 40 = .ok (.iload_n 3, 1) := by decide +kernel
theorem dX8_gains_41 : decode cX8_gains 41 = .ok (.iaload, 1) := by decide +kernel
theorem dX8_gains_42 : decode cX8_gains 42 = .ok (.istore_n 3, 1) := by decide +kernel
theorem dX8_gains_43 : decode cX8_gains 43 = .ok (.iinc 4 (-1), 3) := by decide +kernel
theorem dX8_gains_46 : decode cX8_gains 46 = .ok (.goto (-33), 3) := by decide +kernel
theorem dX8_gains_49 : decode cX8_gains 49 = .ok (.aload_n 0, 1) := by decide +kernel
theorem dX8_gains_50 : decode cX8_gains 50 = .ok (.getfield 40, 3) := by decide +kernel
theorem dX8_gains_53 : decode cX8_gains 53 = .ok (.aload_n 0, 1) := by decide +kernel
theorem dX8_gains_54 : decode cX8_gains 54 = .ok (.getfield 178, 3) := by decide +kernel
theorem dX8_gains_57 : decode cX8_gains 57 = .ok (.iload_n 3, 1) := by decide +kernel
theorem dX8_gains_58 : decode cX8_gains 58 = .ok (.iastore, 1) := by decide +kernel
theorem dX8_gains_59 : decode cX8_gains 59 = .ok (.aload_n 0, 1) := by decide +kernel
theorem dX8_gains_60 : decode cX8_gains 60 = .ok (.dup, 1) := by decide +kernel
theorem dX8_gains_61 : decode cX8_gains 61 = .ok (.getfield 178, 3) := by decide +kernel
theorem dX8_gains_64 : decode cX8_gains 64 = .ok (.iload_n 2, 1) := by decide +kernel
theorem dX8_gains_65 : decode cX8_gains 65 = .ok (.iadd, 1) := by decide +kernel
theorem dX8_gains_66 : decode cX8_gains 66 = .ok (.putfield 178, 3) := by decide +kernel
theorem dX8_gains_69 : decode cX8_gains 69 = .ok (.return_, 1) := by decide +kernel
set_option maxRecDepth 20000 in
theorem ggX8_hasPlace_X8_mostCodes : GoodIn wsX8_hasPlace wsX8_mostCodes := goodIn_r _ [7, 8, 9, 10, 11, 12, 13, 14, 15, 16, 17, 18, 19, 20, 21, 22, 23, 24, 25, 26, 27, 28, 29, 30, 31, 32, 33, 34, 35] (by decide +kernel) (by decide +kernel)
set_option maxRecDepth 20000 in
theorem gX8_hasPlace_X8_mostCodes : GoodIn wsX8_hasPlace (wsV RX8 76 RX8 yX8_mostCodes wsX8_mostCodes) := goodIn_app (goodIn_of _ (by decide +kernel)) ggX8_hasPlace_X8_mostCodes
theorem dX8_hasPlace_0 : decode cX8_hasPlace 0 = .ok (.aload_n 0, 1) := by decide +kernel
theorem dX8_hasPlace_1 : decode cX8_hasPlace 1 = .ok (.getfield 175, 3) := by decide +kernel
theorem dX8_hasPlace_4 : decode cX8_hasPlace 4 = .ok (.ifCond .lt 18, 3) := by decide +kernel
theorem dX8_hasPlace_7 : decode cX8_hasPlace 7 = .ok (.aload_n 0, 1) := by decide +kernel
theorem dX8_hasPlace_8 : decode cX8_hasPlace 8 = .ok (.getfield 172, 3) := by decide +kernel
theorem dX8_hasPlace_11 : decode cX8_hasPlace 11 = .ok (.aload_n 0, 1) := by decide +kernel
theorem dX8_hasPlace_12 : decode cX8_hasPlace 12 = .ok (.invokevirtual 76, 3) := by decide +kernel
theorem dX8_hasPlace_15 : decode cX8_hasPlace 15 = .ok (.if_icmp .ge 7, 3) := by decide +kernel
theorem dX8_hasPlace_18 : decode cX8_hasPlace 18 = .ok (.iconst 1, 1) := by decide +kernel
theorem dX8_hasPlace_19 : decode cX8_hasPlace 19 = .ok (.goto 4, 3) := by decide +kernel
theorem dX8_hasPlace_22 : decode cX8_hasPlace 22 = .ok (.iconst 0, 1) := by decide +kernel
theorem dX8_hasPlace_23 : decode cX8_hasPlace 23 = .ok (.ireturn, 1) := by decide +kernel
set_option maxRecDepth 20000 in
theorem ggX8_isNext_X8_hasPlace : GoodIn wsX8_isNext wsX8_hasPlace := goodIn_r _ [6, 7, 1, 8, 9, 10, 5, 11, 12, 13, 14, 15, 16, 17, 18, 19, 20, 21, 22, 23, 24, 25, 26, 27, 28, 29, 30, 31, 32, 33, 34, 35, 36, 37, 38, 39] (by decide +kernel) (by decide +kernel)
set_option maxRecDepth 20000 in
theorem gX8_isNext_X8_hasPlace : GoodIn wsX8_isNext (wsV RX8 187 RX8 yX8_hasPlace wsX8_hasPlace) := goodIn_app (goodIn_of _ (by decide +kernel)) ggX8_isNext_X8_hasPlace
theorem dX8_isNext_0 : decode cX8_isNext 0 = .ok (.iload_n 1, 1) := by decide +kernel
theorem dX8_isNext_1 : decode cX8_isNext 1 = .ok (.aload_n 0, 1) := by decide +kernel
theorem dX8_isNext_2 : decode cX8_isNext 2 = .ok (.getfield 172, 3) := by decide +kernel
theorem dX8_isNext_5 : decode cX8_isNext 5 = .ok (.if_icmp .ne 14, 3) := by decide +kernel
theorem dX8_isNext_8 : decode cX8_isNext 8 = .ok (.aload_n 0, 1) := by decide +kernel
theorem dX8_isNext_9 : decode cX8_isNext 9 = .ok (.invokevirtual 187, 3) := by decide +kernel
theorem dX8_isNext_12 : decode cX8_isNext 12 = .ok (.ifCond .eq 7, 3) := by decide +kernel
theorem dX8_isNext_15 : decode cX8_isNext 15 = .ok (.iconst 1, 1) := by decide +kernel
theorem dX8_isNext_16 : decode cX8_isNext 16 = .ok (.goto 4, 3) := by decide +kernel
theorem dX8_isNext_19 : decode cX8_isNext 19 = .ok (.iconst 0, 1) := by decide +kernel
theorem dX8_isNext_20 : decode cX8_isNext 20 = .ok (.ireturn, 1) := by decide +kernel
set_option maxRecDepth 20000 in
theorem ggX8_isValid_X8_in : GoodIn wsX8_isValid wsX8_in := goodIn_r _ [5] (by decide +kernel) (by decide +kernel)
set_option maxRecDepth 20000 in
theorem gX8_isValid_X8_in : GoodIn wsX8_isValid (va_wsS RX8 62 yX8_in wsX8_in) := goodIn_app (goodIn_of _ (by decide +kernel)) ggX8_isValid_X8_in
set_option maxRecDepth 20000 in
theorem ggX8_isValid_X8_isNext : GoodIn wsX8_isValid wsX8_isNext := goodIn_r _ [9, 1, 10, 11, 12, 4, 13, 14, 15, 16, 17, 18, 19, 20, 21, 22, 23, 24, 25, 26, 27, 28, 29, 30, 31, 32, 33, 34, 35, 36, 37, 38, 39, 40, 41, 42, 43, 44, 45, 46] (by decide +kernel) (by decide +kernel)
set_option maxRecDepth 20000 in
theorem gX8_isValid_X8_isNext : GoodIn wsX8_isValid (wsV RX8 190 RX8 yX8_isNext wsX8_isNext) := goodIn_app (goodIn_of _ (by decide +kernel)) ggX8_isValid_X8_isNext
theorem dX8_isValid_0 : decode cX8_isValid 0 = .ok (.iload_n 1, 1) := by decide +kernel
theorem dX8_isValid_1 : decode cX8_isValid 1 = .ok (.iconst 0, 1) := by decide +kernel
theorem dX8_isValid_2 : decode cX8_isValid 2 = .ok (.aload_n 0, 1) := by decide +kernel
theorem dX8_isValid_3 : decode cX8_isValid 3 = .ok (.getfield 172, 3) := by decide +kernel
theorem dX8_isValid_6 : decode cX8_isValid 6 = .ok (.iconst 1, 1) := by decide +kernel
theorem dX8_isValid_7 : decode cX8_isValid 7 = .ok (.isub, 1) := by decide +kernel
theorem dX8_isValid_8 : decode cX8_isValid 8 = .ok (.invokestatic 62, 3) := by decide +kernel
theorem dX8_isValid_11 : decode cX8_isValid 11 = .ok (.ifCond .eq 5, 3) := by decide +kernel
theorem dX8_isValid_14 : decode cX8_isValid 14 = .ok (.iconst 1, 1) := by decide +kernel
theorem dX8_isValid_15 : decode cX8_isValid 15 = .ok (.ireturn, 1) := by decide +kernel
theorem dX8_isValid_16 : decode cX8_isValid 16 = .ok (.aload_n 0, 1) := by decide +kernel
theorem dX8_isValid_17 : decode cX8_isValid 17 = .ok (.iload_n 1, 1) := by decide +kernel
theorem dX8_isValid_18 : decode cX8_isValid 18 = .ok (.invokevirtual 190, 3) := by decide +kernel
theorem dX8_isValid_21 : decode cX8_isValid 21 = .ok (.ireturn, 1) := by decide +kernel
set_option maxRecDepth 20000 in
theorem ggX8_lengthTaken_X8_isNext : GoodIn wsX8_lengthTaken wsX8_isNext := goodIn_r _ [6, 7, 8, 9, 10, 5, 11, 1, 12, 13, 14, 15, 16, 30, 31, 32, 33, 34, 35, 36, 37, 38, 39, 40, 41, 42, 43, 44, 45, 46, 47, 48, 49, 50, 51, 52, 53, 54, 55, 56] (by decide +kernel) (by decide +kernel)
set_option maxRecDepth 20000 in
theorem gX8_lengthTaken_X8_isNext : GoodIn wsX8_lengthTaken (wsV RX8 190 RX8 yX8_isNext wsX8_isNext) := goodIn_app (goodIn_of _ (by decide +kernel)) ggX8_lengthTaken_X8_isNext
set_option maxRecDepth 20000 in
theorem ggX8_lengthTaken_X8_seenLength : GoodIn wsX8_lengthTaken wsX8_seenLength := goodIn_r _ [20, 21, 22, 23, 24, 5, 25, 26, 27, 28, 29, 16, 30, 31, 32, 33, 34, 35, 36, 37, 38, 39, 40, 41, 42, 43, 44, 45, 46, 47, 48, 49, 50, 51, 52, 53, 54, 55, 56] (by decide +kernel) (by decide +kernel)
set_option maxRecDepth 20000 in
theorem gX8_lengthTaken_X8_seenLength : GoodIn wsX8_lengthTaken (wsV RX8 184 RX8 yX8_seenLength wsX8_seenLength) := goodIn_app (goodIn_of _ (by decide +kernel)) ggX8_lengthTaken_X8_seenLength
theorem dX8_lengthTaken_0 : decode cX8_lengthTaken 0 = .ok (.aload_n 0, 1) := by decide +kernel
theorem dX8_lengthTaken_1 : decode cX8_lengthTaken 1 = .ok (.iload_n 1, 1) := by decide +kernel
theorem dX8_lengthTaken_2 : decode cX8_lengthTaken 2 = .ok (.invokevirtual 190, 3) := by decide +kernel
theorem dX8_lengthTaken_5 : decode cX8_lengthTaken 5 = .ok (.ifCond .eq 14, 3) := by decide +kernel
theorem dX8_lengthTaken_8 : decode cX8_lengthTaken 8 = .ok (.aload_n 0, 1) := by decide +kernel
theorem dX8_lengthTaken_9 : decode cX8_lengthTaken 9 = .ok (.aload_n 0, 1) := by decide +kernel
theorem dX8_lengthTaken_10 : decode cX8_lengthTaken 10 = .ok (.getfield 175, 3) := by decide +kernel
theorem dX8_lengthTaken_13 : decode cX8_lengthTaken 13 = .ok (.invokevirtual 184, 3) := by decide +kernel
theorem dX8_lengthTaken_16 : decode cX8_lengthTaken 16 = .ok (.iconst 1, 1) := by decide +kernel
theorem dX8_lengthTaken_17 : decode cX8_lengthTaken 17 = .ok (.iadd, 1) := by decide +kernel
theorem dX8_lengthTaken_18 : decode cX8_lengthTaken 18 = .ok (.ireturn, 1) := by decide +kernel
theorem dX8_lengthTaken_19 : decode cX8_lengthTaken 19 = .ok (.aload_n 0, 1) := by decide +kernel
theorem dX8_lengthTaken_20 : decode cX8_lengthTaken 20 = .ok (.iload_n 1, 1) := by decide +kernel
theorem dX8_lengthTaken_21 : decode cX8_lengthTaken 21 = .ok (.invokevirtual 184, 3) := by decide +kernel
theorem dX8_lengthTaken_24 : decode cX8_lengthTaken 24 = .ok (.ireturn, 1) := by decide +kernel
set_option maxRecDepth 20000 in
theorem ggX8_sees_X8_hasPlace : GoodIn wsX8_sees wsX8_hasPlace := goodIn_r _ [6, 1, 7, 8, 9, 10, 5, 11, 12, 39, 40, 41, 42, 43, 44, 45, 46, 47, 48, 49, 50, 51, 52, 53, 54, 55, 56, 57, 58, 59, 60, 61, 62, 63, 64, 65] (by decide +kernel) (by decide +kernel)
set_option maxRecDepth 20000 in
theorem gX8_sees_X8_hasPlace : GoodIn wsX8_sees (wsV RX8 187 RX8 yX8_hasPlace wsX8_hasPlace) := goodIn_app (goodIn_of _ (by decide +kernel)) ggX8_sees_X8_hasPlace
set_option maxRecDepth 20000 in
theorem ggX8_sees_X8_isNext : GoodIn wsX8_sees wsX8_isNext := goodIn_r _ [16, 7, 2, 3, 4, 5, 6, 1, 8, 9, 10, 11, 12, 39, 40, 41, 42, 43, 44, 45, 46, 47, 48, 49, 50, 51, 52, 53, 54, 55, 56, 57, 58, 59, 60, 61, 62, 63, 64, 65] (by decide +kernel) (by decide +kernel)
set_option maxRecDepth 20000 in
theorem gX8_sees_X8_isNext : GoodIn wsX8_sees (wsV RX8 190 RX8 yX8_isNext wsX8_isNext) := goodIn_app (goodIn_of _ (by decide +kernel)) ggX8_sees_X8_isNext
set_option maxRecDepth 20000 in
theorem ggX8_sees_X8_seenFirst : GoodIn wsX8_sees wsX8_seenFirst := goodIn_r _ [20, 21, 22, 23, 24, 5, 25, 26, 27, 28, 29, 12, 39, 40, 41, 42, 43, 44, 45, 46, 47, 48, 49, 50, 51, 52, 53, 54, 55, 56, 57, 58, 59, 60, 61, 62, 63, 64, 65] (by decide +kernel) (by decide +kernel)
set_option maxRecDepth 20000 in
theorem gX8_sees_X8_seenFirst : GoodIn wsX8_sees (wsV RX8 193 RX8 yX8_seenFirst wsX8_seenFirst) := goodIn_app (goodIn_of _ (by decide +kernel)) ggX8_sees_X8_seenFirst
set_option maxRecDepth 20000 in
theorem ggX8_sees_X8_seesLonger : GoodIn wsX8_sees wsX8_seesLonger := goodIn_r _ [33, 1, 21, 7, 34, 35, 36, 37, 5, 38, 26, 27, 28, 29, 12, 39, 40, 41, 42, 43, 44, 45, 46, 47, 48, 49, 50, 51, 52, 53, 54, 55, 56, 57, 58, 59, 60, 61, 62, 63, 64, 65] (by decide +kernel) (by decide +kernel)
set_option maxRecDepth 20000 in
theorem gX8_sees_X8_seesLonger : GoodIn wsX8_sees (wsV RX8 196 RX8 yX8_seesLonger wsX8_seesLonger) := goodIn_app (goodIn_of _ (by decide +kernel)) ggX8_sees_X8_seesLonger
theorem dX8_sees_0 : decode cX8_sees 0 = .ok (.aload_n 0, 1) := by decide +kernel
theorem dX8_sees_1 : decode cX8_sees 1 = .ok (.invokevirtual 187, 3) := by decide +kernel
theorem dX8_sees_4 : decode cX8_sees 4 = .ok (.ifCond .ne 5, 3) := by decide +kernel
theorem dX8_sees_7 : decode cX8_sees 7 = .ok (.iload_n 1, 1) := by decide +kernel
theorem dX8_sees_8 : decode cX8_sees 8 = .ok (.ireturn, 1) := by decide +kernel
theorem dX8_sees_9 : decode cX8_sees 9 = .ok (.aload_n 0, 1) := by decide +kernel
theorem dX8_sees_10 : decode cX8_sees 10 = .ok (.iload_n 1, 1) := by decide +kernel
theorem dX8_sees_11 : decode cX8_sees 11 = .ok (.invokevirtual 190, 3) := by decide +kernel
theorem dX8_sees_14 : decode cX8_sees 14 = .ok (.ifCond .eq 16, 3) := by decide +kernel
theorem dX8_sees_17 : decode cX8_sees 17 = .ok (.aload_n 0, 1) := by decide +kernel
theorem dX8_sees_18 : decode cX8_sees 18 = .ok (.aload_n 0, 1) := by decide +kernel
theorem dX8_sees_19 : decode cX8_sees 19 = .ok (.aload_n 0, 1) := by decide +kernel
theorem dX8_sees_20 : decode cX8_sees 20 = .ok (.getfield 175, 3) := by decide +kernel
theorem dX8_sees_23 : decode cX8_sees 23 = .ok (.invokevirtual 193, 3) := by decide +kernel
theorem dX8_sees_26 : decode cX8_sees 26 = .ok (.invokevirtual 196, 3) := by decide +kernel
theorem dX8_sees_29 : decode cX8_sees 29 = .ok (.ireturn, 1) := by decide +kernel
theorem dX8_sees_30 : decode cX8_sees 30 = .ok (.aload_n 0, 1) := by decide +kernel
theorem dX8_sees_31 : decode cX8_sees 31 = .ok (.aload_n 0, 1) := by decide +kernel
theorem dX8_sees_32 : decode cX8_sees 32 = .ok (.iload_n 1, 1) := by decide +kernel
theorem dX8_sees_33 : decode cX8_sees 33 = .ok (.invokevirtual 193, 3) := by decide +kernel
theorem dX8_sees_36 : decode cX8_sees 36 = .ok (.invokevirtual 196, 3) := by decide +kernel
theorem dX8_sees_39 : decode cX8_sees 39 = .ok (.istore_n 2, 1) := by decide +kernel
theorem dX8_sees_40 : decode cX8_sees 40 = .ok (.iload_n 1, 1) := by decide +kernel
theorem dX8_sees_41 : decode cX8_sees 41 = .ok (.ireturn, 1) := by decide +kernel
set_option maxRecDepth 20000 in
theorem ggX8_takes_X8_clear : GoodIn wsX8_takes wsX8_clear := goodIn_r _ [9, 1, 64, 65, 66, 67, 68, 69, 70, 71, 72, 73, 74, 75, 76, 77, 78, 79, 80, 81, 82, 83, 84, 85, 86, 87, 88, 89, 90] (by decide +kernel) (by decide +kernel)
set_option maxRecDepth 20000 in
theorem gX8_takes_X8_clear : GoodIn wsX8_takes (wsV RX8 80 RX8 yX8_clear wsX8_clear) := goodIn_app (goodIn_of _ (by decide +kernel)) ggX8_takes_X8_clear
set_option maxRecDepth 20000 in
theorem ggX8_takes_X8_isValid : GoodIn wsX8_takes wsX8_isValid := goodIn_r _ [13, 2, 14, 15, 8, 16, 17, 18, 19, 20, 21, 22, 23, 24, 3, 25, 26, 27, 28, 1, 64, 65, 66, 67, 68, 69, 70, 71, 72, 73, 74, 75, 76, 77, 78, 79, 80, 81, 82, 83, 84, 85, 86, 87, 88, 89, 90] (by decide +kernel) (by decide +kernel)
set_option maxRecDepth 20000 in
theorem gX8_takes_X8_isValid : GoodIn wsX8_takes (wsV RX8 199 RX8 yX8_isValid wsX8_isValid) := goodIn_app (goodIn_of _ (by decide +kernel)) ggX8_takes_X8_isValid
set_option maxRecDepth 20000 in
theorem ggX8_takes_X8_lengthTaken : GoodIn wsX8_takes wsX8_lengthTaken := goodIn_r _ [32, 3, 17, 18, 19, 8, 20, 2, 21, 22, 23, 24, 25, 26, 27, 28, 1, 33, 34, 35, 36, 37, 38, 39, 40, 41, 5, 6, 7, 9, 64, 65, 66, 67, 68, 69, 70, 71, 72, 73, 74, 75, 76, 77, 78, 79, 80, 81, 82, 83, 84, 85, 86, 87, 88, 89, 90] (by decide +kernel) (by decide +kernel)
set_option maxRecDepth 20000 in
theorem gX8_takes_X8_lengthTaken : GoodIn wsX8_takes (wsV RX8 202 RX8 yX8_lengthTaken wsX8_lengthTaken) := goodIn_app (goodIn_of _ (by decide +kernel)) ggX8_takes_X8_lengthTaken
set_option maxRecDepth 20000 in
theorem ggX8_takes_X8_sees : GoodIn wsX8_takes wsX8_sees := goodIn_r _ [45, 3, 21, 22, 23, 8, 24, 2, 25, 26, 27, 28, 1, 17, 18, 19, 20, 46, 47, 48, 49, 37, 38, 39, 40, 41, 5, 6, 7, 9, 50, 51, 52, 53, 54, 55, 56, 57, 58, 64, 65, 66, 67, 68, 69, 70, 71, 72, 73, 74, 75, 76, 77, 78, 79, 80, 81, 82, 83, 84, 85, 86, 87, 88, 89, 90] (by decide +kernel) (by decide +kernel)
set_option maxRecDepth 20000 in
theorem gX8_takes_X8_sees : GoodIn wsX8_takes (wsV RX8 205 RX8 yX8_sees wsX8_sees) := goodIn_app (goodIn_of _ (by decide +kernel)) ggX8_takes_X8_sees
set_option maxRecDepth 20000 in
theorem ggX8_takes_X8_gains : GoodIn wsX8_takes wsX8_gains := goodIn_r _ [62, 63, 4, 54, 37, 33, 34, 35, 8, 36, 38, 39, 40, 41, 5, 6, 7, 9, 1, 64, 65, 66, 67, 68, 69, 70, 71, 72, 73, 74, 75, 76, 77, 78, 79, 80, 81, 82, 83, 84, 85, 86, 87, 88, 89, 90] (by decide +kernel) (by decide +kernel)
set_option maxRecDepth 20000 in
theorem gX8_takes_X8_gains : GoodIn wsX8_takes (wsV RX8 208 RX8 yX8_gains wsX8_gains) := goodIn_app (goodIn_of _ (by decide +kernel)) ggX8_takes_X8_gains
theorem dX8_takes_0 : decode cX8_takes 0 = .ok (.iload_n 1, 1) := by decide +kernel
theorem dX8_takes_1 : decode cX8_takes 1 = .ok (.aload_n 0, 1) := by decide +kernel
theorem dX8_takes_2 : decode cX8_takes 2 = .ok (.invokevirtual 80, 3) := by decide +kernel
theorem dX8_takes_5 : decode cX8_takes 5 = .ok (.if_icmp .ne 22, 3) := by decide +kernel
theorem dX8_takes_8 : decode cX8_takes 8 = .ok (.aload_n 0, 1) := by decide +kernel
theorem dX8_takes_9 : decode cX8_takes 9 = .ok (.aload_n 0, 1) := by decide +kernel
theorem dX8_takes_10 : decode cX8_takes 10 = .ok (.getfield 17, 3) := by decide +kernel
theorem dX8_takes_13 : decode cX8_takes 13 = .ok (.iconst 0, 1) := by decide +kernel
theorem dX8_takes_14 : decode cX8_takes 14 = .ok (.iaload, 1) := by decide +kernel
theorem dX8_takes_15 : decode cX8_takes 15 = .ok (.iconst 1, 1) := by decide +kernel
theorem dX8_takes_16 : decode cX8_takes 16 = .ok (.iadd, 1) := by decide +kernel
theorem dX8_takes_17 : decode cX8_takes 17 = .ok (.putfield 172, 3) := by decide +kernel
theorem dX8_takes_20 : decode cX8_takes 20 = .ok (.aload_n 0, 1) := by decide +kernel
theorem dX8_takes_21 : decode cX8_takes 21 = .ok (.iconst (-1), 1) := by decide +kernel
theorem dX8_takes_22 : decode cX8_takes 22 = .ok (.putfield 175, 3) := by decide +kernel
theorem dX8_takes_25 : decode cX8_takes 25 = .ok (.iconst 1, 1) := by decide +kernel
theorem dX8_takes_26 : decode cX8_takes 26 = .ok (.ireturn, 1) := by decide +kernel
theorem dX8_takes_27 : decode cX8_takes 27 = .ok (.aload_n 0, 1) := by decide +kernel
theorem dX8_takes_28 : decode cX8_takes 28 = .ok (.iload_n 1, 1) := by decide +kernel
theorem dX8_takes_29 : decode cX8_takes 29 = .ok (.invokevirtual 199, 3) := by decide +kernel
theorem dX8_takes_32 : decode cX8_takes 32 = .ok (.ifCond .eq 19, 3) := by decide +kernel
theorem dX8_takes_35 : decode cX8_takes 35 = .ok (.aload_n 0, 1) := by decide +kernel
theorem dX8_takes_36 : decode cX8_takes 36 = .ok (.getfield 178, 3) := by decide +kernel
theorem dX8_takes_39 : decode cX8_takes 39 = .ok (.aload_n 0, 1) := by decide +kernel
theorem dX8_takes_40 : decode cX8_takes 40 = .ok (.iload_n 1, 1) := by decide +kernel
theorem dX8_takes_41 : decode cX8_takes 41 = .ok (.invokevirtual 202, 3) := by decide +kernel
theorem dX8_takes_44 : decode cX8_takes 44 = .ok (.iadd, 1) := by decide +kernel
theorem dX8_takes_45 : decode cX8_takes 45 = .ok (.sipush 400, 3) := by decide +kernel
theorem dX8_takes_48 : decode cX8_takes 48 = .ok (.if_icmp .le 5, 3) := by decide +kernel
theorem dX8_takes_51 : decode cX8_takes 51 = .ok (.iconst 0, 1) := by decide +kernel
theorem dX8_takes_52 : decode cX8_takes 52 = .ok (.ireturn, 1) := by decide +kernel
theorem dX8_takes_53 : decode cX8_takes 53 = .ok (.aload_n 0, 1) := by decide +kernel
theorem dX8_takes_54 : decode cX8_takes 54 = .ok (.iload_n 1, 1) := by decide +kernel
theorem dX8_takes_55 : decode cX8_takes 55 = .ok (.invokevirtual 205, 3) := by decide +kernel
theorem dX8_takes_58 : decode cX8_takes 58 = .ok (.istore_n 2, 1) := by decide +kernel
theorem dX8_takes_59 : decode cX8_takes 59 = .ok (.aload_n 0, 1) := by decide +kernel
theorem dX8_takes_60 : decode cX8_takes 60 = .ok (.iload_n 2, 1) := by decide +kernel
theorem dX8_takes_61 : decode cX8_takes 61 = .ok (.invokevirtual 208, 3) := by decide +kernel
theorem dX8_takes_64 : decode cX8_takes 64 = .ok (.aload_n 0, 1) := by decide +kernel
theorem dX8_takes_65 : decode cX8_takes 65 = .ok (.iload_n 2, 1) := by decide +kernel
theorem dX8_takes_66 : decode cX8_takes 66 = .ok (.putfield 175, 3) := by decide +kernel
theorem dX8_takes_69 : decode cX8_takes 69 = .ok (.iconst 1, 1) := by decide +kernel
theorem dX8_takes_70 : decode cX8_takes 70 = .ok (.ireturn, 1) := by decide +kernel
set_option maxRecDepth 20000 in
theorem ggX8_decodesWritten_X8_startsDecoder : GoodIn wsX8_decodesWritten wsX8_startsDecoder := goodIn_r _ [6, 1, 7, 8, 9, 72, 73, 74, 75, 76, 77, 78, 79, 80, 81, 82, 83, 84, 85, 86, 87, 88, 89, 90, 91, 92, 93, 94, 95, 96, 97, 98] (by decide +kernel) (by decide +kernel)
set_option maxRecDepth 20000 in
theorem gX8_decodesWritten_X8_startsDecoder : GoodIn wsX8_decodesWritten (wsV RX8 210 RX8 yX8_startsDecoder wsX8_startsDecoder) := goodIn_app (goodIn_of _ (by decide +kernel)) ggX8_decodesWritten_X8_startsDecoder
set_option maxRecDepth 20000 in
theorem ggX8_decodesWritten_X8_takes : GoodIn wsX8_decodesWritten wsX8_takes := goodIn_r _ [13, 1, 7, 8, 9, 14, 15, 16, 5, 17, 18, 19, 20, 21, 22, 23, 24, 25, 26, 27, 28, 29, 30, 31, 32, 33, 34, 35, 36, 37, 38, 39, 40, 41, 42, 43, 44, 45, 46, 47, 48, 49, 50, 51, 52, 53, 54, 55, 56, 57, 58, 59, 60, 61, 62, 63, 64, 65, 66, 67, 68, 69, 70, 71, 72, 73, 74, 75, 76, 77, 78, 79, 80, 81, 82, 83, 84, 85, 86, 87, 88, 89, 90, 91, 92, 93, 94, 95, 96, 97, 98] (by decide +kernel) (by decide +kernel)
set_option maxRecDepth 20000 in
theorem gX8_decodesWritten_X8_takes : GoodIn wsX8_decodesWritten (wsV RX8 213 RX8 yX8_takes wsX8_takes) := goodIn_app (goodIn_of _ (by decide +kernel)) ggX8_decodesWritten_X8_takes
theorem dX8_decodesWritten_0 : decode cX8_decodesWritten 0 = .ok (.aload_n 0, 1) := by decide +kernel
theorem dX8_decodesWritten_1 : decode cX8_decodesWritten 1 = .ok (.invokevirtual 210, 3) := by decide +kernel
theorem dX8_decodesWritten_4 : decode cX8_decodesWritten 4 = .ok (.iconst 1, 1) := by decide +kernel
theorem dX8_decodesWritten_5 : decode cX8_decodesWritten 5 = .ok (.istore_n 1, 1) := by decide +kernel
theorem dX8_decodesWritten_6 : decode cX8_decodesWritten 6 = .ok (.iconst 0, 1) := by decide +kernel
theorem dX8_decodesWritten_7 : decode cX8_decodesWritten 7 = .ok (.istore_n 2, 1) := by decide +kernel
theorem dX8_decodesWritten_8 : decode cX8_decodesWritten 8 = .ok (.iload_n 2, 1) := by decide +kernel
theorem dX8_decodesWritten_9 : decode cX8_decodesWritten 9 = .ok (.aload_n 0, 1) := by decide +kernel
theorem dX8_decodesWritten_10 : decode cX8_decodesWritten 10 = .ok (.getfield 17, 3) := by decide +kernel
theorem dX8_decodesWritten_13 : decode cX8_decodesWritten 13 = .ok (.bipush 7, 2) := by decide +kernel
theorem dX8_decodesWritten_15 : decode cX8_decodesWritten 15 = .ok (.iaload, 1) := by decide +kernel
theorem dX8_decodesWritten_16 : decode cX8_decodesWritten 16 = .ok (.if_icmp .ge 31, 3) := by decide +kernel
theorem dX8_decodesWritten_19 : decode cX8_decodesWritten 19 = .ok (.iload_n 1, 1) := by decide +kernel
theorem dX8_decodesWritten_20 : decode cX8_decodesWritten 20 = .ok (.ifCond .eq 27, 3) := by decide +kernel
theorem dX8_decodesWritten_23 : decode cX8_decodesWritten 23 = .ok (.aload_n 0, 1) := by decide +kernel
theorem dX8_decodesWritten_24 : decode cX8_decodesWritten 24 = .ok (.aload_n 0, 1) := by decide +kernel
theorem dX8_decodesWritten_25 : decode cX8_decodesWritten 25 = .ok (.getfield 17, 3) := by decide +kernel
theorem dX8_decodesWritten_28 : decode cX8_decodesWritten 28 = .ok (.sipush 926, 3) := by decide +kernel
theorem dX8_decodesWritten_31 : decode cX8_decodesWritten 31 = .ok (.iload_n 2, 1) := by decide +kernel
theorem dX8_decodesWritten_32 : decode cX8_decodesWritten 32 = .ok (.iadd, 1) := by decide +kernel
theorem dX8_decodesWritten_33 : decode cX8_decodesWritten 33 = .ok (.iaload, 1) := by decide +kernel
theorem dX8_decodesWritten_34 : decode cX8_decodesWritten 34 = .ok (.bipush 16, 2) := by decide +kernel
theorem dX8_decodesWritten_36 : decode cX8_decodesWritten 36 = .ok (.idiv, 1) := by decide +kernel
theorem dX8_decodesWritten_37 : decode cX8_decodesWritten 37 = .ok (.invokevirtual 213, 3) := by decide +kernel
theorem dX8_decodesWritten_40 : decode cX8_decodesWritten 40 = .ok (.istore_n 1, 1) := by decide +kernel
theorem dX8_decodesWritten_41 : decode cX8_decodesWritten 41 = .ok (.iinc 2 1, 3) := by decide +kernel
theorem dX8_decodesWritten_44 : decode cX8_decodesWritten 44 = .ok (.goto (-36), 3) := by decide +kernel
theorem dX8_decodesWritten_47 : decode cX8_decodesWritten 47 = .ok (.return_, 1) := by decide +kernel
theorem dX8_isByte_0 : decode cX8_isByte 0 = .ok (.aload_n 0, 1) := by decide +kernel
theorem dX8_isByte_1 : decode cX8_isByte 1 = .ok (.getfield 216, 3) := by decide +kernel
theorem dX8_isByte_4 : decode cX8_isByte 4 = .ok (.aload_n 0, 1) := by decide +kernel
theorem dX8_isByte_5 : decode cX8_isByte 5 = .ok (.getfield 153, 3) := by decide +kernel
theorem dX8_isByte_8 : decode cX8_isByte 8 = .ok (.if_icmp .ge 33, 3) := by decide +kernel
theorem dX8_isByte_11 : decode cX8_isByte 11 = .ok (.aload_n 0, 1) := by decide +kernel
theorem dX8_isByte_12 : decode cX8_isByte 12 = .ok (.getfield 7, 3) := by decide +kernel
theorem dX8_isByte_15 : decode cX8_isByte 15 = .ok (.aload_n 0, 1) := by decide +kernel
theorem dX8_isByte_16 : decode cX8_isByte 16 = .ok (.getfield 216, 3) := by decide +kernel
theorem dX8_isByte_19 : decode cX8_isByte 19 = .ok (.baload, 1) := by decide +kernel
theorem dX8_isByte_20 : decode cX8_isByte 20 = .ok (.iload_n 1, 1) := by decide +kernel
theorem dX8_isByte_21 : decode cX8_isByte 21 = .ok (.if_icmp .lt 20, 3) := by decide +kernel
theorem dX8_isByte_24 : decode cX8_isByte 24 = .ok (.aload_n 0, 1) := by decide +kernel
theorem dX8_isByte_25 : decode cX8_isByte 25 = .ok (.getfield 7, 3) := by decide +kernel
theorem dX8_isByte_28 : decode cX8_isByte 28 = .ok (.aload_n 0, 1) := by decide +kernel
theorem dX8_isByte_29 : decode cX8_isByte 29 = .ok (.getfield 216, 3) := by decide +kernel
theorem dX8_isByte_32 : decode cX8_isByte 32 = .ok (.baload, 1) := by decide +kernel
theorem dX8_isByte_33 : decode cX8_isByte 33 = .ok (.iload_n 2, 1) := by decide +kernel
theorem dX8_isByte_34 : decode cX8_isByte 34 = .ok (.if_icmp .gt 7, 3) := by decide +kernel
theorem dX8_isByte_37 : decode cX8_isByte 37 = .ok (.iconst 1, 1) := by decide +kernel
theorem dX8_isByte_38 : decode cX8_isByte 38 = .ok (.goto 4, 3) := by decide +kernel
theorem dX8_isByte_41 : decode cX8_isByte 41 = .ok (.iconst 0, 1) := by decide +kernel
theorem dX8_isByte_42 : decode cX8_isByte 42 = .ok (.ireturn, 1) := by decide +kernel
set_option maxRecDepth 20000 in
theorem ggX8_takesLetters_X8_isByte : GoodIn wsX8_takesLetters wsX8_isByte := goodIn_r _ [13, 2, 14, 5, 15, 16, 17, 18, 19, 20, 21, 22, 23, 24, 25, 26, 27, 28, 29, 30, 31, 32, 33, 34, 35, 36, 37, 38, 39, 40, 41] (by decide +kernel) (by decide +kernel)
set_option maxRecDepth 20000 in
theorem gX8_takesLetters_X8_isByte : GoodIn wsX8_takesLetters (wsV RX8 223 RX8 yX8_isByte wsX8_isByte) := goodIn_app (goodIn_of _ (by decide +kernel)) ggX8_takesLetters_X8_isByte
theorem dX8_takesLetters_0 : decode cX8_takesLetters 0 = .ok (.aload_n 0, 1) := by decide +kernel
theorem dX8_takesLetters_1 : decode cX8_takesLetters 1 = .ok (.lconst 0, 1) := by decide +kernel
theorem dX8_takesLetters_2 : decode cX8_takesLetters 2 = .ok (.putfield 219, 3) := by decide +kernel
theorem dX8_takesLetters_5 : decode cX8_takesLetters 5 = .ok (.aload_n 0, 1) := by decide +kernel
theorem dX8_takesLetters_6 : decode cX8_takesLetters 6 = .ok (.bipush 97, 2) := by decide +kernel
theorem dX8_takesLetters_8 : decode cX8_takesLetters 8 = .ok (.bipush 122, 2) := by decide +kernel
theorem dX8_takesLetters_10 : decode cX8_takesLetters 10 = .ok (.invokevirtual 223, 3) := by decide +kernel
theorem dX8_takesLetters_13 : decode cX8_takesLetters 13 = .ok (.ifCond .eq 61, 3) := by decide +kernel
theorem dX8_takesLetters_16 : decode cX8_takesLetters 16 = .ok (.aload_n 0, 1) := by decide +kernel
theorem dX8_takesLetters_17 : decode cX8_takesLetters 17 = .ok (.aload_n 0, 1) := by decide +kernel
theorem dX8_takesLetters_18 : decode cX8_takesLetters 18 = .ok (.getfield 216, 3) := by decide +kernel
theorem dX8_takesLetters_21 : decode cX8_takesLetters 21 = .ok (.aload_n 0, 1) := by decide +kernel
theorem dX8_takesLetters_22 : decode cX8_takesLetters 22 = .ok (.getfield 226, 3) := by decide +kernel
theorem dX8_takesLetters_25 : decode cX8_takesLetters 25 = .ok (.isub, 1) := by decide +kernel
theorem dX8_takesLetters_26 : decode cX8_takesLetters 26 = .ok (.bipush 7, 2) := by decide +kernel
theorem dX8_takesLetters_28 : decode cX8_takesLetters 28 = .ok (.if_icmp .ge 29, 3) := by decide +kernel
theorem dX8_takesLetters_31 : decode cX8_takesLetters 31 = .ok (.ldc2_w 229, 3) := by decide +kernel
theorem dX8_takesLetters_34 : decode cX8_takesLetters 34 = .ok (.aload_n 0, 1) := by decide +kernel
theorem dX8_takesLetters_35 : decode cX8_takesLetters 35 = .ok (.getfield 219, 3) := by decide +kernel
theorem dX8_takesLetters_38 : decode cX8_takesLetters 38 = .ok (.lmul, 1) := by decide +kernel
theorem dX8_takesLetters_39 : decode cX8_takesLetters 39 = .ok (.aload_n 0, 1) := by decide +kernel
theorem dX8_takesLetters_40 : decode cX8_takesLetters 40 = .ok (.getfield 7, 3) := by decide +kernel
theorem dX8_takesLetters_43 : decode cX8_takesLetters 43 = .ok (.aload_n 0, 1) := by decide +kernel
theorem dX8_takesLetters_44 : decode cX8_takesLetters 44 = .ok (.getfield 216, 3) := by decide +kernel
theorem dX8_takesLetters_47 : decode cX8_takesLetters 47 = .ok (.baload, 1) := by decide +kernel
theorem dX8_takesLetters_48 : decode cX8_takesLetters 48 = .ok (.i2l, 1) := by decide +kernel
theorem dX8_takesLetters_49 : decode cX8_takesLetters 49 = .ok (.ladd, 1) := by decide +kernel
theorem dX8_takesLetters_50 : decode cX8_takesLetters 50 = .ok (.ldc2_w 231, 3) := by decide +kernel
theorem dX8_takesLetters_53 : decode cX8_takesLetters 53 = .ok (.lsub, 1) := by decide +kernel
theorem dX8_takesLetters_54 : decode cX8_takesLetters 54 = .ok (.goto 4, 3) := by decide +kernel
theorem dX8_takesLetters_57 : decode cX8_takesLetters 57 = .ok (.lconst 0, 1) := by decide +kernel
theorem dX8_takesLetters_58 : decode cX8_takesLetters 58 = .ok (.putfield 219, 3) := by decide +kernel
theorem dX8_takesLetters_61 : decode cX8_takesLetters 61 = .ok (.aload_n 0, 1) := by decide +kernel
theorem dX8_takesLetters_62 : decode cX8_takesLetters 62 = .ok (.dup, 1) := by decide +kernel
theorem dX8_takesLetters_63 : decode cX8_takesLetters 63 = .ok (.getfield 216, 3) := by decide +kernel
theorem dX8_takesLetters_66 : decode cX8_takesLetters 66 = .ok (.iconst 1, 1) := by decide +kernel
theorem dX8_takesLetters_67 : decode cX8_takesLetters 67 = .ok (.iadd, 1) := by decide +kernel
theorem dX8_takesLetters_68 : decode cX8_takesLetters 68 = .ok (.putfield 216, 3) := by decide +kernel
theorem dX8_takesLetters_71 : decode cX8_takesLetters 71 = .ok (.goto (-66), 3) := by decide +kernel
theorem dX8_takesLetters_74 : decode cX8_takesLetters 74 = .ok (.aload_n 0, 1) := by decide +kernel
theorem dX8_takesLetters_75 : decode cX8_takesLetters 75 = .ok (.aload_n 0, 1) := by decide +kernel
theorem dX8_takesLetters_76 : decode cX8_takesLetters 76 = .ok (.getfield 216, 3) := by decide +kernel
theorem dX8_takesLetters_79 : decode cX8_takesLetters 79 = .ok (.aload_n 0, 1) := by decide +kernel
theorem dX8_takesLetters_80 : decode cX8_takesLetters 80 = .ok (.getfield 226, 3) := by decide +kernel
theorem dX8_takesLetters_83 : decode cX8_takesLetters 83 = .ok (.isub, 1) := by decide +kernel
theorem dX8_takesLetters_84 : decode cX8_takesLetters 84 = .ok (.putfield 233, 3) := by decide +kernel
theorem dX8_takesLetters_87 : decode cX8_takesLetters 87 = .ok (.aload_n 0, 1) := by decide +kernel
theorem dX8_takesLetters_88 : decode cX8_takesLetters 88 = .ok (.aload_n 0, 1) := by decide +kernel
theorem dX8_takesLetters_89 : decode cX8_takesLetters 89 = .ok (.getfield 233, 3) := by decide +kernel
theorem dX8_takesLetters_92 : decode cX8_takesLetters 92 = .ok (.bipush 7, 2) := by decide +kernel
theorem dX8_takesLetters_94 : decode cX8_takesLetters 94 = .ok (.if_icmp .le 7, 3) := by decide +kernel
theorem dX8_takesLetters_97 : decode cX8_takesLetters 97 = .ok (.lconst 0, 1) := by decide +kernel
theorem dX8_takesLetters_98 : decode cX8_takesLetters 98 = .ok (.goto 7, 3) := by decide +kernel
theorem dX8_takesLetters_101 : decode cX8_takesLetters 101 = .ok (.aload_n 0, 1) := by decide +kernel
theorem dX8_takesLetters_102 : decode cX8_takesLetters 102 = .ok (.getfield 219, 3) := by decide +kernel
theorem dX8_takesLetters_105 : decode cX8_takesLetters 105 = .ok (.putfield 219, 3) := by decide +kernel
theorem dX8_takesLetters_108 : decode cX8_takesLetters 108 = .ok (.aload_n 0, 1) := by decide +kernel
theorem dX8_takesLetters_109 : decode cX8_takesLetters 109 = .ok (.iconst 1, 1) := by decide +kernel
theorem dX8_takesLetters_110 : decode cX8_takesLetters 110 = .ok (.putfield 236, 3) := by decide +kernel
theorem dX8_takesLetters_113 : decode cX8_takesLetters 113 = .ok (.return_, 1) := by decide +kernel
set_option maxRecDepth 20000 in
theorem ggX8_takesDigits_X8_isByte : GoodIn wsX8_takesDigits wsX8_isByte := goodIn_r _ [10, 2, 11, 4, 12, 13, 14, 15, 16, 17, 18, 19, 20, 21, 22, 23, 24, 25, 26, 27, 28, 29, 30, 31, 32, 33, 34, 35, 36, 37, 38] (by decide +kernel) (by decide +kernel)
set_option maxRecDepth 20000 in
theorem gX8_takesDigits_X8_isByte : GoodIn wsX8_takesDigits (wsV RX8 223 RX8 yX8_isByte wsX8_isByte) := goodIn_app (goodIn_of _ (by decide +kernel)) ggX8_takesDigits_X8_isByte
theorem dX8_takesDigits_0 : decode cX8_takesDigits 0 = .ok (.aload_n 0, 1) := by decide +kernel
theorem dX8_takesDigits_1 : decode cX8_takesDigits 1 = .ok (.iconst 0, 1) := by decide +kernel
theorem dX8_takesDigits_2 : decode cX8_takesDigits 2 = .ok (.putfield 239, 3) := by decide +kernel
theorem dX8_takesDigits_5 : decode cX8_takesDigits 5 = .ok (.aload_n 0, 1) := by decide +kernel
theorem dX8_takesDigits_6 : decode cX8_takesDigits 6 = .ok (.bipush 48, 2) := by decide +kernel
theorem dX8_takesDigits_8 : decode cX8_takesDigits 8 = .ok (.bipush 57, 2) := by decide +kernel
theorem dX8_takesDigits_10 : decode cX8_takesDigits 10 = .ok (.invokevirtual 223, 3) := by decide +kernel
theorem dX8_takesDigits_13 : decode cX8_takesDigits 13 = .ok (.ifCond .eq 60, 3) := by decide +kernel
theorem dX8_takesDigits_16 : decode cX8_takesDigits 16 = .ok (.aload_n 0, 1) := by decide +kernel
theorem dX8_takesDigits_17 : decode cX8_takesDigits 17 = .ok (.aload_n 0, 1) := by decide +kernel
theorem dX8_takesDigits_18 : decode cX8_takesDigits 18 = .ok (.getfield 216, 3) := by decide +kernel
theorem dX8_takesDigits_21 : decode cX8_takesDigits 21 = .ok (.aload_n 0, 1) := by decide +kernel
theorem dX8_takesDigits_22 : decode cX8_takesDigits 22 = .ok (.getfield 226, 3) := by decide +kernel
theorem dX8_takesDigits_25 : decode cX8_takesDigits 25 = .ok (.isub, 1) := by decide +kernel
theorem dX8_takesDigits_26 : decode cX8_takesDigits 26 = .ok (.iconst 3, 1) := by decide +kernel
theorem dX8_takesDigits_27 : decode cX8_takesDigits 27 = .ok (.if_icmp .ge 26, 3) := by decide +kernel
theorem dX8_takesDigits_30 : decode cX8_takesDigits 30 = .ok (.bipush 10, 2) := by decide +kernel
theorem dX8_takesDigits_32 : decode cX8_takesDigits 32 = .ok (.aload_n 0, 1) := by decide +kernel
theorem dX8_takesDigits_33 : decode cX8_takesDigits 33 = .ok (.getfield 239, 3) := by decide +kernel
theorem dX8_takesDigits_36 : decode cX8_takesDigits 36 = .ok (.imul, 1) := by decide +kernel
theorem dX8_takesDigits_37 : decode cX8_takesDigits 37 = .ok (.aload_n 0, 1) := by decide +kernel
theorem dX8_takesDigits_38 : decode cX8_takesDigits 38 = .ok (.getfield 7, 3) := by decide +kernel
theorem dX8_takesDigits_41 : decode cX8_takesDigits 41 = .ok (.aload_n 0, 1) := by decide +kernel
theorem dX8_takesDigits_42 : decode cX8_takesDigits 42 = .ok (.getfield 216, 3) := by decide +kernel
theorem dX8_takesDigits_45 : decode cX8_takesDigits 45 = .ok (.baload, 1) := by decide +kernel
theorem dX8_takesDigits_46 : decode cX8_takesDigits 46 = .ok (.iadd, 1) := by decide +kernel
theorem dX8_takesDigits_47 : decode cX8_takesDigits 47 = .ok (.bipush 48, 2) := by decide +kernel
theorem dX8_takesDigits_49 : decode cX8_takesDigits 49 = .ok (.isub, 1) := by decide +kernel
theorem dX8_takesDigits_50 : decode cX8_takesDigits 50 = .ok (.goto 7, 3) := by decide +kernel
theorem dX8_takesDigits_53 : decode cX8_takesDigits 53 = .ok (.aload_n 0, 1) := by decide +kernel
theorem dX8_takesDigits_54 : decode cX8_takesDigits 54 = .ok (.getfield 239, 3) := by decide +kernel
theorem dX8_takesDigits_57 : decode cX8_takesDigits 57 = .ok (.putfield 239, 3) := by decide +kernel
theorem dX8_takesDigits_60 : decode cX8_takesDigits 60 = .ok (.aload_n 0, 1) := by decide +kernel
theorem dX8_takesDigits_61 : decode cX8_takesDigits 61 = .ok (.dup, 1) := by decide +kernel
theorem dX8_takesDigits_62 : decode cX8_takesDigits 62 = .ok (.getfield 216, 3) := by decide +kernel
theorem dX8_takesDigits_65 : decode cX8_takesDigits 65 = .ok (.iconst 1, 1) := by decide +kernel
theorem dX8_takesDigits_66 : decode cX8_takesDigits 66 = .ok (.iadd, 1) := by decide +kernel
theorem dX8_takesDigits_67 : decode cX8_takesDigits 67 = .ok (.putfield 216, 3) := by decide +kernel
theorem dX8_takesDigits_70 : decode cX8_takesDigits 70 = .ok (.goto (-65), 3) := by decide +kernel
theorem dX8_takesDigits_73 : decode cX8_takesDigits 73 = .ok (.aload_n 0, 1) := by decide +kernel
theorem dX8_takesDigits_74 : decode cX8_takesDigits 74 = .ok (.aload_n 0, 1) := by decide +kernel
theorem dX8_takesDigits_75 : decode cX8_takesDigits 75 = .ok (.getfield 216, 3) := by decide +kernel
theorem dX8_takesDigits_78 : decode cX8_takesDigits 78 = .ok (.aload_n 0, 1) := by decide +kernel
theorem dX8_takesDigits_79 : decode cX8_takesDigits 79 = .ok (.getfield 226, 3) := by decide +kernel
theorem dX8_takesDigits_82 : decode cX8_takesDigits 82 = .ok (.isub, 1) := by decide +kernel
theorem dX8_takesDigits_83 : decode cX8_takesDigits 83 = .ok (.iconst 3, 1) := by decide +kernel
theorem dX8_takesDigits_84 : decode cX8_takesDigits 84 = .ok (.if_icmp .le 7, 3) := by decide +kernel
theorem dX8_takesDigits_87 : decode cX8_takesDigits 87 = .ok (.iconst 4, 1) := by decide +kernel
theorem dX8_takesDigits_88 : decode cX8_takesDigits 88 = .ok (.goto 4, 3) := by decide +kernel
theorem dX8_takesDigits_91 : decode cX8_takesDigits 91 = .ok (.iconst 2, 1) := by decide +kernel
theorem dX8_takesDigits_92 : decode cX8_takesDigits 92 = .ok (.putfield 236, 3) := by decide +kernel
theorem dX8_takesDigits_95 : decode cX8_takesDigits 95 = .ok (.return_, 1) := by decide +kernel
set_option maxRecDepth 20000 in
theorem ggX8_nextToken_X8_isByte : GoodIn wsX8_nextToken wsX8_isByte := goodIn_r _ [10, 1, 2, 3, 24, 25, 26, 27, 28, 29, 30, 31, 32, 33, 34, 35, 36, 37, 38, 39, 40, 41, 42, 43, 44, 45, 46, 47, 48, 49, 50] (by decide +kernel) (by decide +kernel)
set_option maxRecDepth 20000 in
theorem gX8_nextToken_X8_isByte : GoodIn wsX8_nextToken (wsV RX8 223 RX8 yX8_isByte wsX8_isByte) := goodIn_app (goodIn_of _ (by decide +kernel)) ggX8_nextToken_X8_isByte
set_option maxRecDepth 20000 in
theorem ggX8_nextToken_X8_takesLetters : GoodIn wsX8_nextToken wsX8_takesLetters := goodIn_r _ [14, 15, 1, 4, 16, 3, 17, 18, 5, 6, 7, 8, 9, 10, 2, 24, 25, 26, 27, 28, 29, 30, 31, 32, 33, 34, 35, 36, 37, 38, 39, 40, 41, 42, 43, 44, 45, 46, 47, 48, 49, 50] (by decide +kernel) (by decide +kernel)
set_option maxRecDepth 20000 in
theorem gX8_nextToken_X8_takesLetters : GoodIn wsX8_nextToken (wsV RX8 242 RX8 yX8_takesLetters wsX8_takesLetters) := goodIn_app (goodIn_of _ (by decide +kernel)) ggX8_nextToken_X8_takesLetters
set_option maxRecDepth 20000 in
theorem ggX8_nextToken_X8_takesDigits : GoodIn wsX8_nextToken wsX8_takesDigits := goodIn_r _ [22, 23, 1, 4, 3, 5, 6, 7, 8, 9, 10, 2, 24, 25, 26, 27, 28, 29, 30, 31, 32, 33, 34, 35, 36, 37, 38, 39, 40, 41, 42, 43, 44, 45, 46, 47, 48, 49, 50] (by decide +kernel) (by decide +kernel)
set_option maxRecDepth 20000 in
theorem gX8_nextToken_X8_takesDigits : GoodIn wsX8_nextToken (wsV RX8 245 RX8 yX8_takesDigits wsX8_takesDigits) := goodIn_app (goodIn_of _ (by decide +kernel)) ggX8_nextToken_X8_takesDigits
theorem dX8_nextToken_0 : decode cX8_nextToken 0 = .ok (.aload_n 0, 1) := by decide +kernel
theorem dX8_nextToken_1 : decode cX8_nextToken 1 = .ok (.getfield 216, 3) := by decide +kernel
theorem dX8_nextToken_4 : decode cX8_nextToken 4 = .ok (.aload_n 0, 1) := by decide +kernel
theorem dX8_nextToken_5 : decode cX8_nextToken 5 = .ok (.getfield 153, 3) := by decide +kernel
theorem dX8_nextToken_8 : decode cX8_nextToken 8 = .ok (.if_icmp .ge 44, 3) := by decide +kernel
theorem dX8_nextToken_11 : decode cX8_nextToken 11 = .ok (.aload_n 0, 1) := by decide +kernel
theorem dX8_nextToken_12 : decode cX8_nextToken 12 = .ok (.getfield 7, 3) := by decide +kernel
theorem dX8_nextToken_15 : decode cX8_nextToken 15 = .ok (.aload_n 0, 1) := by decide +kernel
theorem dX8_nextToken_16 : decode cX8_nextToken 16 = .ok (.getfield 216, 3) := by decide +kernel
theorem dX8_nextToken_19 : decode cX8_nextToken 19 = .ok (.baload, 1) := by decide +kernel
theorem dX8_nextToken_20 : decode cX8_nextToken 20 = .ok (.bipush 32, 2) := by decide +kernel
theorem dX8_nextToken_22 : decode cX8_nextToken 22 = .ok (.if_icmp .eq 17, 3) := by decide +kernel
theorem dX8_nextToken_25 : decode cX8_nextToken 25 = .ok (.aload_n 0, 1) := by decide +kernel
theorem dX8_nextToken_26 : decode cX8_nextToken 26 = .ok (.getfield 7, 3) := by decide +kernel
theorem dX8_nextToken_29 : decode cX8_nextToken 29 = .ok (.aload_n 0, 1) := by decide +kernel
theorem dX8_nextToken_30 : decode cX8_nextToken 30 = .ok (.getfield 216, 3) := by decide +kernel
theorem dX8_nextToken_33 : decode cX8_nextToken 33 = .ok (.baload, 1) := by decide +kernel
theorem dX8_nextToken_34 : decode cX8_nextToken 34 = .ok (.bipush 10, 2) := by decide +kernel
theorem dX8_nextToken_36 : decode cX8_nextToken 36 = .ok (.if_icmp .ne 16, 3) := by decide +kernel
theorem dX8_nextToken_39 : decode cX8_nextToken 39 = .ok (.aload_n 0, 1) := by decide +kernel
theorem dX8_nextToken_40 : decode cX8_nextToken 40 = .ok (.dup, 1) := by decide +kernel
theorem dX8_nextToken_41 : decode cX8_nextToken 41 = .ok (.getfield 216, 3) := by decide +kernel
theorem dX8_nextToken_44 : decode cX8_nextToken 44 = .ok (.iconst 1, 1) := by decide +kernel
theorem dX8_nextToken_45 : decode cX8_nextToken 45 = .ok (.iadd, 1) := by decide +kernel
theorem dX8_nextToken_46 : decode cX8_nextToken 46 = .ok (.putfield 216, 3) := by decide +kernel
theorem dX8_nextToken_49 : decode cX8_nextToken 49 = .ok (.goto (-49), 3) := by decide +kernel
theorem dX8_nextToken_52 : decode cX8_nextToken 52 = .ok (.aload_n 0, 1) := by decide +kernel
theorem dX8_nextToken_53 : decode cX8_nextToken 53 = .ok (.aload_n 0, 1) := by decide +kernel
theorem dX8_nextToken_54 : decode cX8_nextToken 54 = .ok (.getfield 216, 3) := by decide +kernel
theorem dX8_nextToken_57 : decode cX8_nextToken 57 = .ok (.putfield 226, 3) := by decide +kernel
theorem dX8_nextToken_60 : decode cX8_nextToken 60 = .ok (.aload_n 0, 1) := by decide +kernel
theorem dX8_nextToken_61 : decode cX8_nextToken 61 = .ok (.getfield 216, 3) := by decide +kernel
theorem dX8_nextToken_64 : decode cX8_nextToken 64 = .ok (.aload_n 0, 1) := by decide +kernel
theorem dX8_nextToken_65 : decode cX8_nextToken 65 = .ok (.getfield 153, 3) := by decide +kernel
theorem dX8_nextToken_68 : decode cX8_nextToken 68 = .ok (.if_icmp .ne 11, 3) := by decide +kernel
theorem dX8_nextToken_71 : decode cX8_nextToken 71 = .ok (.aload_n 0, 1) := by decide +kernel
theorem dX8_nextToken_72 : decode cX8_nextToken 72 = .ok (.iconst 0, 1) := by decide +kernel
theorem dX8_nextToken_73 : decode cX8_nextToken 73 = .ok (.putfield 236, 3) := by decide +kernel
theorem dX8_nextToken_76 : decode cX8_nextToken 76 = .ok (.goto 72, 3) := by decide +kernel
theorem dX8_nextToken_79 : decode cX8_nextToken 79 = .ok (.aload_n 0, 1) := by decide +kernel
theorem dX8_nextToken_80 : decode cX8_nextToken 80 = .ok (.bipush 97, 2) := by decide +kernel
theorem dX8_nextToken_82 : decode cX8_nextToken 82 = .ok (.bipush 122, 2) := by decide +kernel
theorem dX8_nextToken_84 : decode cX8_nextToken 84 = .ok (.invokevirtual 223, 3) := by decide +kernel
theorem dX8_nextToken_87 : decode cX8_nextToken 87 = .ok (.ifCond .eq 10, 3) := by decide +kernel
theorem dX8_nextToken_90 : decode cX8_nextToken 90 = .ok (.aload_n 0, 1) := by decide +kernel
theorem dX8_nextToken_91 : decode cX8_nextToken 91 = .ok (.invokevirtual 242, 3) := by decide +kernel
theorem dX8_nextToken_94 : decode cX8_nextToken 94 = .ok (.goto 54, 3) := by decide +kernel
theorem dX8_nextToken_97 : decode cX8_nextToken 97 = .ok (.aload_n 0, 1) := by decide +kernel
theorem dX8_nextToken_98 : decode cX8_nextToken 98 = .ok (.bipush 48, 2) := by decide +kernel
theorem dX8_nextToken_100 : decode cX8_nextToken 100 = .ok (.bipush 57, 2) := by decide +kernel
theorem dX8_nextToken_102 : decode cX8_nextToken 102 = .ok (.invokevirtual 223, 3) := by decide +kernel
theorem dX8_nextToken_105 : decode cX8_nextToken 105 = .ok (.ifCond .eq 10, 3) := by decide +kernel
theorem dX8_nextToken_108 : decode cX8_nextToken 108 = .ok (.aload_n 0, 1) := by decide +kernel
theorem dX8_nextToken_109 : decode cX8_nextToken 109 = .ok (.invokevirtual 245, 3) := by decide +kernel
theorem dX8_nextToken_112 : decode cX8_nextToken 112 = .ok (.goto 36, 3) := by decide +kernel
theorem dX8_nextToken_115 : decode cX8_nextToken 115 = .ok (.aload_n 0, 1) := by decide +kernel
theorem dX8_nextToken_116 : decode cX8_nextToken 116 = .ok (.aload_n 0, 1) := by decide +kernel
theorem dX8_nextToken_117 : decode cX8_nextToken 117 = .ok (.getfield 7, 3) := by decide +kernel
theorem dX8_nextToken_120 : decode cX8_nextToken 120 = .ok (.aload_n 0, 1) := by decide +kernel
theorem dX8_nextToken_121 : decode cX8_nextToken 121 = .ok (.getfield 216, 3) := by decide +kernel
theorem dX8_nextToken_124 : decode cX8_nextToken 124 = .ok (.baload, 1) := by decide +kernel
theorem dX8_nextToken_125 : decode cX8_nextToken 125 = .ok (.bipush 59, 2) := by decide +kernel
theorem dX8_nextToken_127 : decode cX8_nextToken 127 = .ok (.if_icmp .ne 7, 3) := by decide +kernel
theorem dX8_nextToken_130 : decode cX8_nextToken 130 = .ok (.iconst 3, 1) := by decide +kernel
theorem dX8_nextToken_131 : decode cX8_nextToken 131 = .ok (.goto 4, 3) := by decide +kernel
theorem dX8_nextToken_134 : decode cX8_nextToken 134 = .ok (.iconst 4, 1) := by decide +kernel
theorem dX8_nextToken_135 : decode cX8_nextToken 135 = .ok (.putfield 236, 3) := by decide +kernel
theorem dX8_nextToken_138 : decode cX8_nextToken 138 = .ok (.aload_n 0, 1) := by decide +kernel
theorem dX8_nextToken_139 : decode cX8_nextToken 139 = .ok (.dup, 1) := by decide +kernel
theorem dX8_nextToken_140 : decode cX8_nextToken 140 = .ok (.getfield 216, 3) := by decide +kernel
theorem dX8_nextToken_143 : decode cX8_nextToken 143 = .ok (.iconst 1, 1) := by decide +kernel
theorem dX8_nextToken_144 : decode cX8_nextToken 144 = .ok (.iadd, 1) := by decide +kernel
theorem dX8_nextToken_145 : decode cX8_nextToken 145 = .ok (.putfield 216, 3) := by decide +kernel
theorem dX8_nextToken_148 : decode cX8_nextToken 148 = .ok (.return_, 1) := by decide +kernel
set_option maxRecDepth 20000 in
theorem ggX8_accepts_X8_nextToken : GoodIn wsX8_accepts wsX8_nextToken := goodIn_r _ [8, 9, 10, 11, 2, 12, 13, 14, 15, 7, 16, 17, 18, 19, 20, 21, 22, 23, 24, 25, 26, 27, 28, 29, 30, 31, 32, 33, 34, 35, 36, 37, 38, 39, 40, 41, 42, 43, 44, 45, 46, 47, 48, 49, 50, 51, 52, 53, 54, 55, 56] (by decide +kernel) (by decide +kernel)
set_option maxRecDepth 20000 in
theorem gX8_accepts_X8_nextToken : GoodIn wsX8_accepts (wsV RX8 252 RX8 yX8_nextToken wsX8_nextToken) := goodIn_app (goodIn_of _ (by decide +kernel)) ggX8_accepts_X8_nextToken
theorem dX8_accepts_0 : decode cX8_accepts 0 = .ok (.aload_n 0, 1) := by decide +kernel
theorem dX8_accepts_1 : decode cX8_accepts 1 = .ok (.getfield 248, 3) := by decide +kernel
theorem dX8_accepts_4 : decode cX8_accepts 4 = .ok (.ifCond .eq 20, 3) := by decide +kernel
theorem dX8_accepts_7 : decode cX8_accepts 7 = .ok (.iload_n 1, 1) := by decide +kernel
theorem dX8_accepts_8 : decode cX8_accepts 8 = .ok (.ifCond .ne 16, 3) := by decide +kernel
theorem dX8_accepts_11 : decode cX8_accepts 11 = .ok (.aload_n 0, 1) := by decide +kernel
theorem dX8_accepts_12 : decode cX8_accepts 12 = .ok (.iconst 0, 1) := by decide +kernel
theorem dX8_accepts_13 : decode cX8_accepts 13 = .ok (.putfield 248, 3) := by decide +kernel
theorem dX8_accepts_16 : decode cX8_accepts 16 = .ok (.aload_n 0, 1) := by decide +kernel
theorem dX8_accepts_17 : decode cX8_accepts 17 = .ok (.aload_n 0, 1) := by decide +kernel
theorem dX8_accepts_18 : decode cX8_accepts 18 = .ok (.getfield 226, 3) := by decide +kernel
theorem dX8_accepts_21 : decode cX8_accepts 21 = .ok (.putfield 13, 3) := by decide +kernel
theorem dX8_accepts_24 : decode cX8_accepts 24 = .ok (.aload_n 0, 1) := by decide +kernel
theorem dX8_accepts_25 : decode cX8_accepts 25 = .ok (.getfield 248, 3) := by decide +kernel
theorem dX8_accepts_28 : decode cX8_accepts 28 = .ok (.ifCond .eq 7, 3) := by decide +kernel
theorem dX8_accepts_31 : decode cX8_accepts 31 = .ok (.aload_n 0, 1) := by decide +kernel
theorem dX8_accepts_32 : decode cX8_accepts 32 = .ok (.invokevirtual 252, 3) := by decide +kernel
theorem dX8_accepts_35 : decode cX8_accepts 35 = .ok (.return_, 1) := by decide +kernel
theorem dX8_isKey_0 : decode cX8_isKey 0 = .ok (.aload_n 0, 1) := by decide +kernel
theorem dX8_isKey_1 : decode cX8_isKey 1 = .ok (.getfield 248, 3) := by decide +kernel
theorem dX8_isKey_4 : decode cX8_isKey 4 = .ok (.ifCond .eq 24, 3) := by decide +kernel
theorem dX8_isKey_7 : decode cX8_isKey 7 = .ok (.aload_n 0, 1) := by decide +kernel
theorem dX8_isKey_8 : decode cX8_isKey 8 = .ok (.getfield 236, 3) := by decide +kernel
theorem dX8_isKey_11 : decode cX8_isKey 11 = .ok (.iconst 1, 1) := by decide +kernel
theorem dX8_isKey_12 : decode cX8_isKey 12 = .ok (.if_icmp .ne 16, 3) := by decide +kernel
theorem dX8_isKey_15 : decode cX8_isKey 15 = .ok (.aload_n 0, 1) := by decide +kernel
theorem dX8_isKey_16 : decode cX8_isKey 16 = .ok (.getfield 219, 3) := by decide +kernel
theorem dX8_isKey_19 : decode cX8_isKey 19 = .ok (.lload_n 1, 1) := by decide +kernel
theorem dX8_isKey_20 : decode cX8_isKey 20 = .ok (.lcmp, 1) := by decide +kernel
theorem dX8_isKey_21 : decode cX8_isKey 21 = .ok (.ifCond .ne 7, 3) := by decide +kernel
theorem dX8_isKey_24 : decode cX8_isKey 24 = .ok (.iconst 1, 1) := by decide +kernel
theorem dX8_isKey_25 : decode cX8_isKey 25 = .ok (.goto 4, 3) := by decide +kernel
theorem dX8_isKey_28 : decode cX8_isKey 28 = .ok (.iconst 0, 1) := by decide +kernel
theorem dX8_isKey_29 : decode cX8_isKey 29 = .ok (.ireturn, 1) := by decide +kernel
set_option maxRecDepth 20000 in
theorem ggX8_numberIf_X8_accepts : GoodIn wsX8_numberIf wsX8_accepts := goodIn_r _ [8, 2, 9, 10, 11, 12, 13, 7, 14, 15, 16, 17, 3, 18, 19, 20, 21, 22, 23, 24, 25, 26, 27, 28, 29, 30, 31, 32, 33, 1, 34, 35, 36, 37, 38, 39, 40, 41, 42, 43, 44, 45, 46, 47, 48, 49, 50, 51, 52, 53, 54, 55, 56, 57, 58, 59, 60] (by decide +kernel) (by decide +kernel)
set_option maxRecDepth 20000 in
theorem gX8_numberIf_X8_accepts : GoodIn wsX8_numberIf (wsV RX8 255 RX8 yX8_accepts wsX8_accepts) := goodIn_app (goodIn_of _ (by decide +kernel)) ggX8_numberIf_X8_accepts
theorem dX8_numberIf_0 : decode cX8_numberIf 0 = .ok (.aload_n 0, 1) := by decide +kernel
theorem dX8_numberIf_1 : decode cX8_numberIf 1 = .ok (.getfield 239, 3) := by decide +kernel
theorem dX8_numberIf_4 : decode cX8_numberIf 4 = .ok (.istore_n 2, 1) := by decide +kernel
theorem dX8_numberIf_5 : decode cX8_numberIf 5 = .ok (.aload_n 0, 1) := by decide +kernel
theorem dX8_numberIf_6 : decode cX8_numberIf 6 = .ok (.aload_n 0, 1) := by decide +kernel
theorem dX8_numberIf_7 : decode cX8_numberIf 7 = .ok (.getfield 248, 3) := by decide +kernel
theorem dX8_numberIf_10 : decode cX8_numberIf 10 = .ok (.ifCond .eq 19, 3) := by decide +kernel
theorem dX8_numberIf_13 : decode cX8_numberIf 13 = .ok (.aload_n 0, 1) := by decide +kernel
theorem dX8_numberIf_14 : decode cX8_numberIf 14 = .ok (.getfield 236, 3) := by decide +kernel
theorem dX8_numberIf_17 : decode cX8_numberIf 17 = .ok (.iconst 2, 1) := by decide +kernel
theorem dX8_numberIf_18 : decode cX8_numberIf 18 = .ok (.if_icmp .ne 11, 3) := by decide +kernel
theorem dX8_numberIf_21 : decode cX8_numberIf 21 = .ok (.iload_n 1, 1) := by decide +kernel
theorem dX8_numberIf_22 : decode cX8_numberIf 22 = .ok (.ifCond .eq 7, 3) := by decide +kernel
theorem dX8_numberIf_25 : decode cX8_numberIf 25 = .ok (.iconst 1, 1) := by decide +kernel
theorem dX8_numberIf_26 : decode cX8_numberIf 26 = .ok (.goto 4, 3) := by decide +kernel
theorem dX8_numberIf_29 : decode cX8_numberIf 29 = .ok (.iconst 0, 1) := by decide +kernel
theorem dX8_numberIf_30 : decode cX8_numberIf 30 = .ok (.invokevirtual 255, 3) := by decide +kernel
theorem dX8_numberIf_33 : decode cX8_numberIf 33 = .ok (.aload_n 0, 1) := by decide +kernel
theorem dX8_numberIf_34 : decode cX8_numberIf 34 = .ok (.getfield 248, 3) := by decide +kernel
theorem dX8_numberIf_37 : decode cX8_numberIf 37 = .ok (.ifCond .ne 5, 3) := by decide +kernel
theorem dX8_numberIf_40 : decode cX8_numberIf 40 = .ok (.iconst 0, 1) := by decide +kernel
theorem dX8_numberIf_41 : decode cX8_numberIf 41 = .ok (.ireturn, 1) := by decide +kernel
theorem dX8_numberIf_42 : decode cX8_numberIf 42 = .ok (.iload_n 2, 1) := by decide +kernel
theorem dX8_numberIf_43 : decode cX8_numberIf 43 = .ok (.ireturn, 1) := by decide +kernel
set_option maxRecDepth 20000 in
theorem ggX8_numberIn_X8_in : GoodIn wsX8_numberIn wsX8_in := goodIn_r _ [5] (by decide +kernel) (by decide +kernel)
set_option maxRecDepth 20000 in
theorem gX8_numberIn_X8_in : GoodIn wsX8_numberIn (va_wsS RX8 62 yX8_in wsX8_in) := goodIn_app (goodIn_of _ (by decide +kernel)) ggX8_numberIn_X8_in
set_option maxRecDepth 20000 in
theorem ggX8_numberIn_X8_numberIf : GoodIn wsX8_numberIn wsX8_numberIf := goodIn_r _ [9, 1, 10, 11, 12, 13, 14, 4, 15, 16, 17, 18, 19, 20, 21, 22, 23, 24, 25, 26, 27, 28, 29, 30, 31, 32, 33, 34, 35, 36, 37, 38, 39, 40, 41, 42, 43, 44, 45, 46, 47, 48, 49, 50, 51, 52, 53, 54, 55, 56, 57, 58, 59, 60, 61, 62, 63, 64, 65, 66, 67] (by decide +kernel) (by decide +kernel)
set_option maxRecDepth 20000 in
theorem gX8_numberIn_X8_numberIf : GoodIn wsX8_numberIn (wsV RX8 259 RX8 yX8_numberIf wsX8_numberIf) := goodIn_app (goodIn_of _ (by decide +kernel)) ggX8_numberIn_X8_numberIf
theorem dX8_numberIn_0 : decode cX8_numberIn 0 = .ok (.aload_n 0, 1) := by decide +kernel
theorem dX8_numberIn_1 : decode cX8_numberIn 1 = .ok (.aload_n 0, 1) := by decide +kernel
theorem dX8_numberIn_2 : decode cX8_numberIn 2 = .ok (.getfield 239, 3) := by decide +kernel
theorem dX8_numberIn_5 : decode cX8_numberIn 5 = .ok (.iload_n 1, 1) := by decide +kernel
theorem dX8_numberIn_6 : decode cX8_numberIn 6 = .ok (.iload_n 2, 1) := by decide +kernel
theorem dX8_numberIn_7 : decode cX8_numberIn 7 = .ok (.invokestatic 62, 3) := by decide +kernel
theorem dX8_numberIn_10 : decode cX8_numberIn 10 = .ok (.invokevirtual 259, 3) := by decide +kernel
theorem dX8_numberIn_13 : decode cX8_numberIn 13 = .ok (.ireturn, 1) := by decide +kernel
set_option maxRecDepth 20000 in
theorem ggX8_mark_X8_accepts : GoodIn wsX8_mark wsX8_accepts := goodIn_r _ [7, 1, 8, 9, 10, 11, 12, 6, 13, 14, 15, 16, 2, 17, 18, 19, 20, 21, 22, 23, 24, 25, 26, 27, 28, 29, 30, 31, 32, 33, 34, 35, 36, 37, 38, 39, 40, 41, 42, 43, 44, 45, 46, 47, 48, 49, 50, 51, 52, 53, 54, 55, 56, 57, 58, 59, 60] (by decide +kernel) (by decide +kernel)
set_option maxRecDepth 20000 in
theorem gX8_mark_X8_accepts : GoodIn wsX8_mark (wsV RX8 255 RX8 yX8_accepts wsX8_accepts) := goodIn_app (goodIn_of _ (by decide +kernel)) ggX8_mark_X8_accepts
theorem dX8_mark_0 : decode cX8_mark 0 = .ok (.aload_n 0, 1) := by decide +kernel
theorem dX8_mark_1 : decode cX8_mark 1 = .ok (.aload_n 0, 1) := by decide +kernel
theorem dX8_mark_2 : decode cX8_mark 2 = .ok (.getfield 248, 3) := by decide +kernel
theorem dX8_mark_5 : decode cX8_mark 5 = .ok (.ifCond .eq 15, 3) := by decide +kernel
theorem dX8_mark_8 : decode cX8_mark 8 = .ok (.aload_n 0, 1) := by decide +kernel
theorem dX8_mark_9 : decode cX8_mark 9 = .ok (.getfield 236, 3) := by decide +kernel
theorem dX8_mark_12 : decode cX8_mark 12 = .ok (.iconst 3, 1) := by decide +kernel
theorem dX8_mark_13 : decode cX8_mark 13 = .ok (.if_icmp .ne 7, 3) := by decide +kernel
theorem dX8_mark_16 : decode cX8_mark 16 = .ok (.iconst 1, 1) := by decide +kernel
theorem dX8_mark_17 : decode cX8_mark 17 = .ok (.goto 4, 3) := by decide +kernel
theorem dX8_mark_20 : decode cX8_mark 20 = .ok (.iconst 0, 1) := by decide +kernel
theorem dX8_mark_21 : decode cX8_mark 21 = .ok (.invokevirtual 255, 3) := by decide +kernel
theorem dX8_mark_24 : decode cX8_mark 24 = .ok (.return_, 1) := by decide +kernel
set_option maxRecDepth 20000 in
theorem ggX8_policyWord_X8_isKey : GoodIn wsX8_policyWord wsX8_isKey := goodIn_r _ [8, 9, 10, 11, 12, 13, 14, 15, 16, 17, 18, 19, 20, 21, 22, 23, 24, 25, 26, 27, 28, 29, 30, 31, 32, 33, 34, 35, 36, 37, 38] (by decide +kernel) (by decide +kernel)
set_option maxRecDepth 20000 in
theorem gX8_policyWord_X8_isKey : GoodIn wsX8_policyWord (wsV RX8 265 RX8 yX8_isKey wsX8_isKey) := goodIn_app (goodIn_of _ (by decide +kernel)) ggX8_policyWord_X8_isKey
theorem dX8_policyWord_0 : decode cX8_policyWord 0 = .ok (.aload_n 0, 1) := by decide +kernel
theorem dX8_policyWord_1 : decode cX8_policyWord 1 = .ok (.ldc2_w 263, 3) := by decide +kernel
theorem dX8_policyWord_4 : decode cX8_policyWord 4 = .ok (.invokevirtual 265, 3) := by decide +kernel
theorem dX8_policyWord_7 : decode cX8_policyWord 7 = .ok (.ifCond .eq 5, 3) := by decide +kernel
theorem dX8_policyWord_10 : decode cX8_policyWord 10 = .ok (.iconst 0, 1) := by decide +kernel
theorem dX8_policyWord_11 : decode cX8_policyWord 11 = .ok (.ireturn, 1) := by decide +kernel
theorem dX8_policyWord_12 : decode cX8_policyWord 12 = .ok (.aload_n 0, 1) := by decide +kernel
theorem dX8_policyWord_13 : decode cX8_policyWord 13 = .ok (.ldc2_w 269, 3) := by decide +kernel
theorem dX8_policyWord_16 : decode cX8_policyWord 16 = .ok (.invokevirtual 265, 3) := by decide +kernel
theorem dX8_policyWord_19 : decode cX8_policyWord 19 = .ok (.ifCond .eq 5, 3) := by decide +kernel
theorem dX8_policyWord_22 : decode cX8_policyWord 22 = .ok (.iconst 1, 1) := by decide +kernel
theorem dX8_policyWord_23 : decode cX8_policyWord 23 = .ok (.ireturn, 1) := by decide +kernel
theorem dX8_policyWord_24 : decode cX8_policyWord 24 = .ok (.aload_n 0, 1) := by decide +kernel
theorem dX8_policyWord_25 : decode cX8_policyWord 25 = .ok (.ldc2_w 271, 3) := by decide +kernel
theorem dX8_policyWord_28 : decode cX8_policyWord 28 = .ok (.invokevirtual 265, 3) := by decide +kernel
theorem dX8_policyWord_31 : decode cX8_policyWord 31 = .ok (.ifCond .eq 7, 3) := by decide +kernel
theorem dX8_policyWord_34 : decode cX8_policyWord 34 = .ok (.iconst 2, 1) := by decide +kernel
theorem dX8_policyWord_35 : decode cX8_policyWord 35 = .ok (.goto 4, 3) := by decide +kernel
theorem dX8_policyWord_38 : decode cX8_policyWord 38 = .ok (.iconst (-1), 1) := by decide +kernel
theorem dX8_policyWord_39 : decode cX8_policyWord 39 = .ok (.ireturn, 1) := by decide +kernel
set_option maxRecDepth 20000 in
theorem ggX8_isWide_X8_in : GoodIn wsX8_isWide wsX8_in := goodIn_r _ [5] (by decide +kernel) (by decide +kernel)
set_option maxRecDepth 20000 in
theorem gX8_isWide_X8_in : GoodIn wsX8_isWide (va_wsS RX8 62 yX8_in wsX8_in) := goodIn_app (goodIn_of _ (by decide +kernel)) ggX8_isWide_X8_in
theorem dX8_isWide_0 : decode cX8_isWide 0 = .ok (.iload_n 1, 1) := by decide +kernel
theorem dX8_isWide_1 : decode cX8_isWide 1 = .ok (.iconst 3, 1) := by decide +kernel
theorem dX8_isWide_2 : decode cX8_isWide 2 = .ok (.bipush 8, 2) := by decide +kernel
theorem dX8_isWide_4 : decode cX8_isWide 4 = .ok (.invokestatic 62, 3) := by decide +kernel
theorem dX8_isWide_7 : decode cX8_isWide 7 = .ok (.ifCond .ne 5, 3) := by decide +kernel
theorem dX8_isWide_10 : decode cX8_isWide 10 = .ok (.iconst 0, 1) := by decide +kernel
theorem dX8_isWide_11 : decode cX8_isWide 11 = .ok (.ireturn, 1) := by decide +kernel
theorem dX8_isWide_12 : decode cX8_isWide 12 = .ok (.iconst 1, 1) := by decide +kernel
theorem dX8_isWide_13 : decode cX8_isWide 13 = .ok (.iload_n 1, 1) := by decide +kernel
theorem dX8_isWide_14 : decode cX8_isWide 14 = .ok (.ishl, 1) := by decide +kernel
theorem dX8_isWide_15 : decode cX8_isWide 15 = .ok (.aload_n 0, 1) := by decide +kernel
theorem dX8_isWide_16 : decode cX8_isWide 16 = .ok (.getfield 17, 3) := by decide +kernel
theorem dX8_isWide_19 : decode cX8_isWide 19 = .ok (.iconst 0, 1) := by decide +kernel
theorem dX8_isWide_20 : decode cX8_isWide 20 = .ok (.iaload, 1) := by decide +kernel
theorem dX8_isWide_21 : decode cX8_isWide 21 = .ok (.iconst 2, 1) := by decide +kernel
theorem dX8_isWide_22 : decode cX8_isWide 22 = .ok (.iadd, 1) := by decide +kernel
theorem dX8_isWide_23 : decode cX8_isWide 23 = .ok (.if_icmp .lt 7, 3) := by decide +kernel
theorem dX8_isWide_26 : decode cX8_isWide 26 = .ok (.iconst 1, 1) := by decide +kernel
theorem dX8_isWide_27 : decode cX8_isWide 27 = .ok (.goto 4, 3) := by decide +kernel
theorem dX8_isWide_30 : decode cX8_isWide 30 = .ok (.iconst 0, 1) := by decide +kernel
theorem dX8_isWide_31 : decode cX8_isWide 31 = .ok (.ireturn, 1) := by decide +kernel
set_option maxRecDepth 20000 in
theorem ggX8_readSettings_X8_isKey : GoodIn wsX8_readSettings wsX8_isKey := goodIn_r _ [8, 9, 10, 11, 69, 70, 71, 72, 73, 74, 75, 76, 77, 78, 79, 80, 81, 82, 83, 84, 85, 86, 87, 88, 89, 90, 91, 92, 93, 94, 95] (by decide +kernel) (by decide +kernel)
set_option maxRecDepth 20000 in
theorem gX8_readSettings_X8_isKey : GoodIn wsX8_readSettings (wsV RX8 265 RX8 yX8_isKey wsX8_isKey) := goodIn_app (goodIn_of _ (by decide +kernel)) ggX8_readSettings_X8_isKey
set_option maxRecDepth 20000 in
theorem ggX8_readSettings_X8_accepts : GoodIn wsX8_readSettings wsX8_accepts := goodIn_r _ [15, 9, 16, 17, 18, 19, 20, 7, 21, 22, 23, 24, 10, 25, 26, 27, 28, 29, 30, 31, 32, 11, 33, 34, 35, 36, 37, 38, 39, 3, 69, 70, 71, 72, 73, 74, 75, 76, 77, 78, 79, 80, 81, 82, 83, 84, 85, 86, 87, 88, 89, 90, 91, 92, 93, 94, 95] (by decide +kernel) (by decide +kernel)
set_option maxRecDepth 20000 in
theorem gX8_readSettings_X8_accepts : GoodIn wsX8_readSettings (wsV RX8 255 RX8 yX8_accepts wsX8_accepts) := goodIn_app (goodIn_of _ (by decide +kernel)) ggX8_readSettings_X8_accepts
set_option maxRecDepth 20000 in
theorem ggX8_readSettings_X8_numberIn : GoodIn wsX8_readSettings wsX8_numberIn := goodIn_r _ [43, 3, 44, 45, 7, 46, 47, 48, 49, 50, 9, 10, 12, 13, 14, 15, 16, 17, 18, 19, 20, 21, 22, 23, 24, 25, 26, 27, 28, 29, 30, 31, 32, 11, 33, 34, 35, 36, 37, 38, 39, 69, 70, 71, 72, 73, 74, 75, 76, 77, 78, 79, 80, 81, 82, 83, 84, 85, 86, 87, 88, 89, 90, 91, 92, 93, 94, 95] (by decide +kernel) (by decide +kernel)
set_option maxRecDepth 20000 in
theorem gX8_readSettings_X8_numberIn : GoodIn wsX8_readSettings (wsV RX8 275 RX8 yX8_numberIn wsX8_numberIn) := goodIn_app (goodIn_of _ (by decide +kernel)) ggX8_readSettings_X8_numberIn
set_option maxRecDepth 20000 in
theorem ggX8_readSettings_X8_more : GoodIn wsX8_readSettings wsX8_more := goodIn_r _ [53] (by decide +kernel) (by decide +kernel)
set_option maxRecDepth 20000 in
theorem gX8_readSettings_X8_more : GoodIn wsX8_readSettings (va_wsS RX8 278 yX8_more wsX8_more) := goodIn_app (goodIn_of _ (by decide +kernel)) ggX8_readSettings_X8_more
set_option maxRecDepth 20000 in
theorem ggX8_readSettings_X8_isWide : GoodIn wsX8_readSettings wsX8_isWide := goodIn_r _ [57, 2, 44, 45, 7, 46, 69, 70, 71, 72, 73, 74, 75, 76, 77, 78, 79, 80, 81, 82, 83, 84, 85, 86, 87, 88, 89, 90, 91, 92, 93, 94, 95] (by decide +kernel) (by decide +kernel)
set_option maxRecDepth 20000 in
theorem gX8_readSettings_X8_isWide : GoodIn wsX8_readSettings (wsV RX8 281 RX8 yX8_isWide wsX8_isWide) := goodIn_app (goodIn_of _ (by decide +kernel)) ggX8_readSettings_X8_isWide
set_option maxRecDepth 20000 in
theorem ggX8_readSettings_X8_numberIf : GoodIn wsX8_readSettings wsX8_numberIf := goodIn_r _ [50, 3, 9, 10, 12, 13, 14, 7, 15, 16, 17, 18, 19, 20, 21, 22, 23, 24, 25, 26, 27, 28, 29, 30, 31, 32, 11, 33, 34, 35, 36, 37, 38, 39, 69, 70, 71, 72, 73, 74, 75, 76, 77, 78, 79, 80, 81, 82, 83, 84, 85, 86, 87, 88, 89, 90, 91, 92, 93, 94, 95] (by decide +kernel) (by decide +kernel)
set_option maxRecDepth 20000 in
theorem gX8_readSettings_X8_numberIf : GoodIn wsX8_readSettings (wsV RX8 259 RX8 yX8_numberIf wsX8_numberIf) := goodIn_app (goodIn_of _ (by decide +kernel)) ggX8_readSettings_X8_numberIf
set_option maxRecDepth 20000 in
theorem ggX8_readSettings_X8_policyWord : GoodIn wsX8_readSettings wsX8_policyWord := goodIn_r _ [61, 62, 63, 64, 4, 5, 6, 7, 8, 9, 10, 11, 69, 70, 71, 72, 73, 74, 75, 76, 77, 78, 79, 80, 81, 82, 83, 84, 85, 86, 87, 88, 89, 90, 91, 92, 93, 94, 95] (by decide +kernel) (by decide +kernel)
set_option maxRecDepth 20000 in
theorem gX8_readSettings_X8_policyWord : GoodIn wsX8_readSettings (wsV RX8 284 RX8 yX8_policyWord wsX8_policyWord) := goodIn_app (goodIn_of _ (by decide +kernel)) ggX8_readSettings_X8_policyWord
set_option maxRecDepth 20000 in
theorem ggX8_readSettings_X8_mark : GoodIn wsX8_readSettings wsX8_mark := goodIn_r _ [68, 9, 10, 12, 13, 14, 7, 15, 16, 17, 18, 19, 20, 21, 22, 23, 24, 25, 26, 27, 28, 29, 30, 31, 32, 11, 33, 34, 35, 36, 37, 38, 39, 3, 69, 70, 71, 72, 73, 74, 75, 76, 77, 78, 79, 80, 81, 82, 83, 84, 85, 86, 87, 88, 89, 90, 91, 92, 93, 94, 95] (by decide +kernel) (by decide +kernel)
set_option maxRecDepth 20000 in
theorem gX8_readSettings_X8_mark : GoodIn wsX8_readSettings (wsV RX8 287 RX8 yX8_mark wsX8_mark) := goodIn_app (goodIn_of _ (by decide +kernel)) ggX8_readSettings_X8_mark
theorem dX8_readSettings_0 : decode cX8_readSettings 0 = .ok (.aload_n 0, 1) := by decide +kernel
theorem dX8_readSettings_1 : decode cX8_readSettings 1 = .ok (.aload_n 0, 1) := by decide +kernel
theorem dX8_readSettings_2 : decode cX8_readSettings 2 = .ok (.ldc2_w 273, 3) := by decide +kernel
theorem dX8_readSettings_5 : decode cX8_readSettings 5 = .ok (.invokevirtual 265, 3) := by decide +kernel
theorem dX8_readSettings_8 : decode cX8_readSettings 8 = .ok (.invokevirtual 255, 3) := by decide +kernel
theorem dX8_readSettings_11 : decode cX8_readSettings 11 = .ok (.aload_n 0, 1) := by decide +kernel
theorem dX8_readSettings_12 : decode cX8_readSettings 12 = .ok (.iconst 2, 1) := by decide +kernel
theorem dX8_readSettings_13 : decode cX8_readSettings 13 = .ok (.bipush 26, 2) := by decide +kernel
theorem dX8_readSettings_15 : decode cX8_readSettings 15 = .ok (.invokevirtual 275, 3) := by decide +kernel
theorem dX8_readSettings_18 : decode cX8_readSettings 18 = .ok (.istore_n 1, 1) := by decide +kernel
theorem dX8_readSettings_19 : decode cX8_readSettings 19 = .ok (.aload_n 0, 1) := by decide +kernel
theorem dX8_readSettings_20 : decode cX8_readSettings 20 = .ok (.getfield 17, 3) := by decide +kernel
theorem dX8_readSettings_23 : decode cX8_readSettings 23 = .ok (.iconst 0, 1) := by decide +kernel
theorem dX8_readSettings_24 : decode cX8_readSettings 24 = .ok (.iconst 2, 1) := by decide +kernel
theorem dX8_readSettings_25 : decode cX8_readSettings 25 = .ok (.iload_n 1, 1) := by decide +kernel
theorem dX8_readSettings_26 : decode cX8_readSettings 26 = .ok (.invokestatic 278, 3) := by decide +kernel
theorem dX8_readSettings_29 : decode cX8_readSettings 29 = .ok (.iastore, 1) := by decide +kernel
theorem dX8_readSettings_30 : decode cX8_readSettings 30 = .ok (.aload_n 0, 1) := by decide +kernel
theorem dX8_readSettings_31 : decode cX8_readSettings 31 = .ok (.aload_n 0, 1) := by decide +kernel
theorem dX8_readSettings_32 : decode cX8_readSettings 32 = .ok (.aload_n 0, 1) := by decide +kernel
theorem dX8_readSettings_33 : decode cX8_readSettings 33 = .ok (.getfield 239, 3) := by decide +kernel
theorem dX8_readSettings_36 : decode cX8_readSettings 36 = .ok (.invokevirtual 281, 3) := by decide +kernel
theorem dX8_readSettings_39 : decode cX8_readSettings 39 = .ok (.invokevirtual 259, 3) := by decide +kernel
theorem dX8_readSettings_42 : decode cX8_readSettings 42 = .ok (.istore_n 2, 1) := by decide +kernel
theorem dX8_readSettings_43 : decode cX8_readSettings 43 = .ok (.aload_n 0, 1) := by decide +kernel
theorem dX8_readSettings_44 : decode cX8_readSettings 44 = .ok (.getfield 17, 3) := by decide +kernel
theorem dX8_readSettings_47 : decode cX8_readSettings 47 = .ok (.iconst 1, 1) := by decide +kernel
theorem dX8_readSettings_48 : decode cX8_readSettings 48 = .ok (.iconst 3, 1) := by decide +kernel
theorem dX8_readSettings_49 : decode cX8_readSettings 49 = .ok (.iload_n 2, 1) := by decide +kernel
theorem dX8_readSettings_50 : decode cX8_readSettings 50 = .ok (.invokestatic 278, 3) := by decide +kernel
theorem dX8_readSettings_53 : decode cX8_readSettings 53 = .ok (.iastore, 1) := by decide +kernel
theorem dX8_readSettings_54 : decode cX8_readSettings 54 = .ok (.aload_n 0, 1) := by decide +kernel
theorem dX8_readSettings_55 : decode cX8_readSettings 55 = .ok (.invokevirtual 284, 3) := by decide +kernel
theorem dX8_readSettings_58 : decode cX8_readSettings 58 = .ok (.istore_n 3, 1) := by decide +kernel
theorem dX8_readSettings_59 : decode cX8_readSettings 59 = .ok (.aload_n 0, 1) := by decide +kernel
theorem dX8_readSettings_60 : decode cX8_readSettings 60 = .ok (.iload_n 3, 1) := by decide +kernel
theorem dX8_readSettings_61 : decode cX8_readSettings 61 = .ok (.ifCond .lt 7, 3) := by decide +kernel
theorem dX8_readSettings_64 : decode cX8_readSettings 64 = .ok (.iconst 1, 1) := by decide +kernel
theorem dX8_readSettings_65 : decode cX8_readSettings 65 = .ok (.goto 4, 3) := by decide +kernel
theorem dX8_readSettings_68 : decode cX8_readSettings 68 = .ok (.iconst 0, 1) := by decide +kernel
theorem dX8_readSettings_69 : decode cX8_readSettings 69 = .ok (.invokevirtual 255, 3) := by decide +kernel
theorem dX8_readSettings_72 : decode cX8_readSettings 72 = .ok (.aload_n 0, 1) := by decide +kernel
theorem dX8_readSettings_73 : decode cX8_readSettings 73 = .ok (.getfield 17, 3) := by decide +kernel
theorem dX8_readSettings_76 : decode cX8_readSettings 76 = .ok (.iconst 2, 1) := by decide +kernel
theorem dX8_readSettings_77 : decode cX8_readSettings 77 = .ok (.iload_n 3, 1) := by decide +kernel
theorem dX8_readSettings_78 : decode cX8_readSettings 78 = .ok (.iastore, 1) := by decide +kernel
theorem dX8_readSettings_79 : decode cX8_readSettings 79 = .ok (.aload_n 0, 1) := by decide +kernel
theorem dX8_readSettings_80 : decode cX8_readSettings 80 = .ok (.getfield 17, 3) := by decide +kernel
theorem dX8_readSettings_83 : decode cX8_readSettings 83 = .ok (.iconst 3, 1) := by decide +kernel
theorem dX8_readSettings_84 : decode cX8_readSettings 84 = .ok (.aload_n 0, 1) := by decide +kernel
theorem dX8_readSettings_85 : decode cX8_readSettings 85 = .ok (.iconst 1, 1) := by decide +kernel
theorem dX8_readSettings_86 : decode cX8_readSettings 86 = .ok (.sipush 200, 3) := by decide +kernel
theorem dX8_readSettings_89 : decode cX8_readSettings 89 = .ok (.invokevirtual 275, 3) := by decide +kernel
theorem dX8_readSettings_92 : decode cX8_readSettings 92 = .ok (.iastore, 1) := by decide +kernel
theorem dX8_readSettings_93 : decode cX8_readSettings 93 = .ok (.aload_n 0, 1) := by decide +kernel
theorem dX8_readSettings_94 : decode cX8_readSettings 94 = .ok (.invokevirtual 287, 3) := by decide +kernel
theorem dX8_readSettings_97 : decode cX8_readSettings 97 = .ok (.return_, 1) := by decide +kernel
set_option maxRecDepth 20000 in
theorem ggX8_fits_X8_areLetters : GoodIn wsX8_fits wsX8_areLetters := goodIn_r _ [6, 7, 8, 9, 10, 5, 11, 12, 13, 14, 15, 1, 16, 17, 18, 19, 20, 21, 22, 23, 24, 25, 26, 27, 28, 29, 30, 31, 32, 33, 34, 35, 36, 37, 38, 39, 40, 41, 42, 43, 44, 45] (by decide +kernel) (by decide +kernel)
set_option maxRecDepth 20000 in
theorem gX8_fits_X8_areLetters : GoodIn wsX8_fits (wsV RX8 156 RX8 yX8_areLetters wsX8_areLetters) := goodIn_app (goodIn_of _ (by decide +kernel)) ggX8_fits_X8_areLetters
theorem dX8_fits_0 : decode cX8_fits 0 = .ok (.aload_n 0, 1) := by decide +kernel
theorem dX8_fits_1 : decode cX8_fits 1 = .ok (.getfield 17, 3) := by decide +kernel
theorem dX8_fits_4 : decode cX8_fits 4 = .ok (.bipush 6, 2) := by decide +kernel
theorem dX8_fits_6 : decode cX8_fits 6 = .ok (.iaload, 1) := by decide +kernel
theorem dX8_fits_7 : decode cX8_fits 7 = .ok (.iload_n 2, 1) := by decide +kernel
theorem dX8_fits_8 : decode cX8_fits 8 = .ok (.iadd, 1) := by decide +kernel
theorem dX8_fits_9 : decode cX8_fits 9 = .ok (.sipush 400, 3) := by decide +kernel
theorem dX8_fits_12 : decode cX8_fits 12 = .ok (.if_icmp .le 5, 3) := by decide +kernel
theorem dX8_fits_15 : decode cX8_fits 15 = .ok (.iconst 0, 1) := by decide +kernel
theorem dX8_fits_16 : decode cX8_fits 16 = .ok (.ireturn, 1) := by decide +kernel
theorem dX8_fits_17 : decode cX8_fits 17 = .ok (.aload_n 0, 1) := by decide +kernel
theorem dX8_fits_18 : decode cX8_fits 18 = .ok (.iload_n 1, 1) := by decide +kernel
theorem dX8_fits_19 : decode cX8_fits 19 = .ok (.iload_n 2, 1) := by decide +kernel
theorem dX8_fits_20 : decode cX8_fits 20 = .ok (.invokevirtual 156, 3) := by decide +kernel
theorem dX8_fits_23 : decode cX8_fits 23 = .ok (.ireturn, 1) := by decide +kernel
set_option maxRecDepth 20000 in
theorem ggX8_readSymbols_X8_isKey : GoodIn wsX8_readSymbols wsX8_isKey := goodIn_r _ [10, 4, 5, 11, 154, 155, 156, 157, 158, 159, 160, 161, 162, 163, 164, 165, 166, 167, 168, 169, 170, 171, 172, 173, 174, 175, 176, 177, 178, 179, 180] (by decide +kernel) (by decide +kernel)
set_option maxRecDepth 20000 in
theorem gX8_readSymbols_X8_isKey : GoodIn wsX8_readSymbols (wsV RX8 265 RX8 yX8_isKey wsX8_isKey) := goodIn_app (goodIn_of _ (by decide +kernel)) ggX8_readSymbols_X8_isKey
set_option maxRecDepth 20000 in
theorem ggX8_readSymbols_X8_accepts : GoodIn wsX8_readSymbols wsX8_accepts := goodIn_r _ [15, 4, 2, 16, 17, 18, 19, 9, 20, 21, 22, 23, 5, 24, 25, 26, 27, 28, 29, 30, 31, 11, 32, 33, 3, 34, 35, 36, 37, 38, 154, 155, 156, 157, 158, 159, 160, 161, 162, 163, 164, 165, 166, 167, 168, 169, 170, 171, 172, 173, 174, 175, 176, 177, 178, 179, 180] (by decide +kernel) (by decide +kernel)
set_option maxRecDepth 20000 in
theorem gX8_readSymbols_X8_accepts : GoodIn wsX8_readSymbols (wsV RX8 255 RX8 yX8_accepts wsX8_accepts) := goodIn_app (goodIn_of _ (by decide +kernel)) ggX8_readSymbols_X8_accepts
set_option maxRecDepth 20000 in
theorem ggX8_readSymbols_X8_fits : GoodIn wsX8_readSymbols wsX8_fits := goodIn_r _ [42, 43, 44, 45, 46, 9, 47, 23, 48, 49, 50, 51, 52, 53, 54, 55, 56, 57, 58, 154, 155, 156, 157, 158, 159, 160, 161, 162, 163, 164, 165, 166, 167, 168, 169, 170, 171, 172, 173, 174, 175, 176, 177, 178, 179, 180] (by decide +kernel) (by decide +kernel)
set_option maxRecDepth 20000 in
theorem gX8_readSymbols_X8_fits : GoodIn wsX8_readSymbols (wsV RX8 292 RX8 yX8_fits wsX8_fits) := goodIn_app (goodIn_of _ (by decide +kernel)) ggX8_readSymbols_X8_fits
set_option maxRecDepth 20000 in
theorem ggX8_readSymbols_X8_mark : GoodIn wsX8_readSymbols wsX8_mark := goodIn_r _ [62, 4, 5, 12, 13, 14, 9, 15, 2, 16, 17, 18, 19, 20, 21, 22, 23, 24, 25, 26, 27, 28, 29, 30, 31, 11, 32, 33, 3, 34, 35, 36, 37, 38, 154, 155, 156, 157, 158, 159, 160, 161, 162, 163, 164, 165, 166, 167, 168, 169, 170, 171, 172, 173, 174, 175, 176, 177, 178, 179, 180] (by decide +kernel) (by decide +kernel)
set_option maxRecDepth 20000 in
theorem gX8_readSymbols_X8_mark : GoodIn wsX8_readSymbols (wsV RX8 287 RX8 yX8_mark wsX8_mark) := goodIn_app (goodIn_of _ (by decide +kernel)) ggX8_readSymbols_X8_mark
set_option maxRecDepth 20000 in
theorem ggX8_readSymbols_X8_encodesTape : GoodIn wsX8_readSymbols wsX8_encodesTape := goodIn_r _ [66, 23, 67, 68, 69, 9, 70, 43, 71, 72, 73, 74, 75, 76, 77, 78, 79, 80, 81, 82, 83, 84, 85, 86, 87, 88, 89, 90, 91, 92, 93, 94, 95, 96, 97, 98, 99, 100, 101, 102, 103, 104, 105, 106, 107, 108, 109, 110, 111, 112, 113, 114, 115, 116, 117, 118, 119, 120, 121, 122, 123, 124, 125, 126, 127, 128, 129, 130, 131, 132, 133, 134, 135, 136, 137, 138, 139, 140, 141, 142, 143, 144, 145, 146, 147, 148, 149, 150, 151, 152, 153, 154, 155, 156, 157, 158, 159, 160, 161, 162, 163, 164, 165, 166, 167, 168, 169, 170, 171, 172, 173, 174, 175, 176, 177, 178, 179, 180] (by decide +kernel) (by decide +kernel)
set_option maxRecDepth 20000 in
theorem gX8_readSymbols_X8_encodesTape : GoodIn wsX8_readSymbols (wsV RX8 160 RX8 yX8_encodesTape wsX8_encodesTape) := goodIn_app (goodIn_of _ (by decide +kernel)) ggX8_readSymbols_X8_encodesTape
theorem dX8_readSymbols_0 : decode cX8_readSymbols 0 = .ok (.aload_n 0, 1) := by decide +kernel
theorem dX8_readSymbols_1 : decode cX8_readSymbols 1 = .ok (.aload_n 0, 1) := by decide +kernel
theorem dX8_readSymbols_2 : decode cX8_readSymbols 2 = .ok (.ldc2_w 290, 3) := by decide +kernel
theorem dX8_readSymbols_5 : decode cX8_readSymbols 5 = .ok (.invokevirtual 265, 3) := by decide +kernel
theorem dX8_readSymbols_8 : decode cX8_readSymbols 8 = .ok (.invokevirtual 255, 3) := by decide +kernel
theorem dX8_readSymbols_11 : decode cX8_readSymbols 11 = .ok (.aload_n 0, 1) := by decide +kernel
theorem dX8_readSymbols_12 : decode cX8_readSymbols 12 = .ok (.getfield 226, 3) := by decide +kernel
theorem dX8_readSymbols_15 : decode cX8_readSymbols 15 = .ok (.istore_n 1, 1) := by decide +kernel
theorem dX8_readSymbols_16 : decode cX8_readSymbols 16 = .ok (.aload_n 0, 1) := by decide +kernel
theorem dX8_readSymbols_17 : decode cX8_readSymbols 17 = .ok (.getfield 233, 3) := by decide +kernel
theorem dX8_readSymbols_20 : decode cX8_readSymbols 20 = .ok (.istore_n 2, 1) := by decide +kernel
theorem dX8_readSymbols_21 : decode cX8_readSymbols 21 = .ok (.aload_n 0, 1) := by decide +kernel
theorem dX8_readSymbols_22 : decode cX8_readSymbols 22 = .ok (.aload_n 0, 1) := by decide +kernel
theorem dX8_readSymbols_23 : decode cX8_readSymbols 23 = .ok (.getfield 248, 3) := by decide +kernel
theorem dX8_readSymbols_26 : decode cX8_readSymbols 26 = .ok (.ifCond .eq 24, 3) := by decide +kernel
theorem dX8_readSymbols_29 : decode cX8_readSymbols 29 = .ok (.aload_n 0, 1) := by decide +kernel
theorem dX8_readSymbols_30 : decode cX8_readSymbols 30 = .ok (.getfield 236, 3) := by decide +kernel
theorem dX8_readSymbols_33 : decode cX8_readSymbols 33 = .ok (.iconst 1, 1) := by decide +kernel
theorem dX8_readSymbols_34 : decode cX8_readSymbols 34 = .ok (.if_icmp .ne 16, 3) := by decide +kernel
theorem dX8_readSymbols_37 : decode cX8_readSymbols 37 = .ok (.aload_n 0, 1) := by decide +kernel
theorem dX8_readSymbols_38 : decode cX8_readSymbols 38 = .ok (.iload_n 1, 1) := by decide +kernel
theorem dX8_readSymbols_39 : decode cX8_readSymbols 39 = .ok (.iload_n 2, 1) := by decide +kernel
theorem dX8_readSymbols_40 : decode cX8_readSymbols 40 = .ok (.invokevirtual 292, 3) := by decide +kernel
theorem dX8_readSymbols_43 : decode cX8_readSymbols 43 = .ok (.ifCond .eq 7, 3) := by decide +kernel
theorem dX8_readSymbols_46 : decode cX8_readSymbols 46 = .ok (.iconst 1, 1) := by decide +kernel
theorem dX8_readSymbols_47 : decode cX8_readSymbols 47 = .ok (.goto 4, 3) := by decide +kernel
theorem dX8_readSymbols_50 : decode cX8_readSymbols 50 = .ok (.iconst 0, 1) := by decide +kernel
theorem dX8_readSymbols_51 : decode cX8_readSymbols 51 = .ok (.invokevirtual 255, 3) := by decide +kernel
theorem dX8_readSymbols_54 : decode cX8_readSymbols 54 = .ok (.aload_n 0, 1) := by decide +kernel
theorem dX8_readSymbols_55 : decode cX8_readSymbols 55 = .ok (.invokevirtual 287, 3) := by decide +kernel
theorem dX8_readSymbols_58 : decode cX8_readSymbols 58 = .ok (.aload_n 0, 1) := by decide +kernel
theorem dX8_readSymbols_59 : decode cX8_readSymbols 59 = .ok (.getfield 248, 3) := by decide +kernel
theorem dX8_readSymbols_62 : decode cX8_readSymbols 62 = .ok (.ifCond .eq 9, 3) := by decide +kernel
theorem dX8_readSymbols_65 : decode cX8_readSymbols 65 = .ok (.aload_n 0, 1) := by decide +kernel
theorem dX8_readSymbols_66 : decode cX8_readSymbols 66 = .ok (.iload_n 1, 1) := by decide +kernel
theorem dX8_readSymbols_67 : decode cX8_readSymbols 67 = .ok (.iload_n 2, 1) := by decide +kernel
theorem dX8_readSymbols_68 : decode cX8_readSymbols 68 = .ok (.invokevirtual 160, 3) := by decide +kernel
theorem dX8_readSymbols_71 : decode cX8_readSymbols 71 = .ok (.return_, 1) := by decide +kernel
set_option maxRecDepth 20000 in
theorem ggX8_startsReading_X8_nextToken : GoodIn wsX8_startsReading wsX8_nextToken := goodIn_r _ [8, 1, 9, 10, 11, 12, 13, 14, 15, 7, 16, 17, 18, 19, 20, 21, 22, 23, 24, 25, 26, 27, 28, 29, 30, 31, 32, 33, 34, 35, 36, 37, 38, 39, 40, 41, 42, 43, 44, 45, 46, 47, 48, 49, 50, 51, 52, 53, 54, 55, 56] (by decide +kernel) (by decide +kernel)
set_option maxRecDepth 20000 in
theorem gX8_startsReading_X8_nextToken : GoodIn wsX8_startsReading (wsV RX8 252 RX8 yX8_nextToken wsX8_nextToken) := goodIn_app (goodIn_of _ (by decide +kernel)) ggX8_startsReading_X8_nextToken
theorem dX8_startsReading_0 : decode cX8_startsReading 0 = .ok (.aload_n 0, 1) := by decide +kernel
theorem dX8_startsReading_1 : decode cX8_startsReading 1 = .ok (.iconst 0, 1) := by decide +kernel
theorem dX8_startsReading_2 : decode cX8_startsReading 2 = .ok (.putfield 216, 3) := by decide +kernel
theorem dX8_startsReading_5 : decode cX8_startsReading 5 = .ok (.aload_n 0, 1) := by decide +kernel
theorem dX8_startsReading_6 : decode cX8_startsReading 6 = .ok (.iconst 1, 1) := by decide +kernel
theorem dX8_startsReading_7 : decode cX8_startsReading 7 = .ok (.putfield 248, 3) := by decide +kernel
theorem dX8_startsReading_10 : decode cX8_startsReading 10 = .ok (.aload_n 0, 1) := by decide +kernel
theorem dX8_startsReading_11 : decode cX8_startsReading 11 = .ok (.iconst (-1), 1) := by decide +kernel
theorem dX8_startsReading_12 : decode cX8_startsReading 12 = .ok (.putfield 13, 3) := by decide +kernel
theorem dX8_startsReading_15 : decode cX8_startsReading 15 = .ok (.aload_n 0, 1) := by decide +kernel
theorem dX8_startsReading_16 : decode cX8_startsReading 16 = .ok (.invokevirtual 252, 3) := by decide +kernel
theorem dX8_startsReading_19 : decode cX8_startsReading 19 = .ok (.return_, 1) := by decide +kernel
set_option maxRecDepth 20000 in
theorem ggX8_load_X8_keepsAside : GoodIn wsX8_load wsX8_keepsAside := goodIn_r _ [12, 13, 1, 214, 215, 216, 217, 218, 219, 220, 221, 222, 223, 224, 225, 226, 227, 228, 229, 230, 231, 232, 233, 234, 235, 236, 237, 238, 239, 240] (by decide +kernel) (by decide +kernel)
set_option maxRecDepth 20000 in
theorem gX8_load_X8_keepsAside : GoodIn wsX8_load (wsV RX8 70 RX8 yX8_keepsAside wsX8_keepsAside) := goodIn_app (goodIn_of _ (by decide +kernel)) ggX8_load_X8_keepsAside
set_option maxRecDepth 20000 in
theorem ggX8_load_X8_startsReading : GoodIn wsX8_load wsX8_startsReading := goodIn_r _ [17, 18, 2, 19, 20, 21, 22, 11, 23, 4, 24, 25, 3, 26, 27, 28, 29, 30, 31, 32, 33, 34, 35, 36, 37, 38, 39, 40, 41, 42, 214, 215, 216, 217, 218, 219, 220, 221, 222, 223, 224, 225, 226, 227, 228, 229, 230, 231, 232, 233, 234, 235, 236, 237, 238, 239, 240] (by decide +kernel) (by decide +kernel)
set_option maxRecDepth 20000 in
theorem gX8_load_X8_startsReading : GoodIn wsX8_load (wsV RX8 295 RX8 yX8_startsReading wsX8_startsReading) := goodIn_app (goodIn_of _ (by decide +kernel)) ggX8_load_X8_startsReading
set_option maxRecDepth 20000 in
theorem ggX8_load_X8_readSettings : GoodIn wsX8_load wsX8_readSettings := goodIn_r _ [46, 47, 1, 42, 48, 49, 50, 11, 51, 2, 3, 34, 52, 53, 54, 55, 25, 19, 20, 21, 22, 23, 18, 4, 24, 26, 27, 28, 29, 30, 31, 32, 33, 35, 36, 37, 38, 39, 40, 41, 56, 57, 58, 59, 60, 61, 62, 63, 64, 65, 66, 67, 68, 69, 70, 71, 72, 73, 74, 75, 76, 77, 78, 79, 80, 81, 82, 83, 84, 214, 215, 216, 217, 218, 219, 220, 221, 222, 223, 224, 225, 226, 227, 228, 229, 230, 231, 232, 233, 234, 235, 236, 237, 238, 239, 240] (by decide +kernel) (by decide +kernel)
set_option maxRecDepth 20000 in
theorem gX8_load_X8_readSettings : GoodIn wsX8_load (wsV RX8 298 RX8 yX8_readSettings wsX8_readSettings) := goodIn_app (goodIn_of _ (by decide +kernel)) ggX8_load_X8_readSettings
set_option maxRecDepth 20000 in
theorem ggX8_load_X8_starts : GoodIn wsX8_load wsX8_starts := goodIn_r _ [88, 1, 89, 90, 91, 11, 92, 214, 215, 216, 217, 218, 219, 220, 221, 222, 223, 224, 225, 226, 227, 228, 229, 230, 231, 232, 233, 234, 235, 236, 237, 238, 239, 240] (by decide +kernel) (by decide +kernel)
set_option maxRecDepth 20000 in
theorem gX8_load_X8_starts : GoodIn wsX8_load (wsV RX8 166 RX8 yX8_starts wsX8_starts) := goodIn_app (goodIn_of _ (by decide +kernel)) ggX8_load_X8_starts
set_option maxRecDepth 20000 in
theorem ggX8_load_X8_readSymbols : GoodIn wsX8_load wsX8_readSymbols := goodIn_r _ [96, 97, 25, 37, 2, 3, 48, 49, 50, 11, 51, 34, 52, 53, 54, 55, 19, 20, 21, 22, 23, 18, 4, 24, 26, 27, 28, 29, 30, 31, 32, 33, 35, 36, 38, 39, 40, 41, 42, 98, 99, 100, 101, 1, 102, 103, 104, 105, 106, 107, 108, 109, 110, 111, 112, 113, 60, 61, 62, 81, 82, 83, 84, 114, 115, 116, 117, 118, 119, 120, 121, 122, 123, 124, 125, 126, 127, 128, 129, 130, 131, 132, 133, 134, 135, 136, 137, 138, 139, 140, 141, 142, 143, 144, 145, 146, 147, 148, 149, 150, 151, 152, 153, 154, 155, 156, 157, 158, 159, 160, 161, 162, 163, 164, 165, 166, 167, 168, 169, 170, 171, 172, 173, 174, 175, 176, 177, 178, 179, 180, 181, 182, 183, 184, 185, 186, 187, 188, 189, 190, 191, 192, 193, 194, 195, 196, 89, 90, 91, 92, 197, 198, 199, 200, 214, 215, 216, 217, 218, 219, 220, 221, 222, 223, 224, 225, 226, 227, 228, 229, 230, 231, 232, 233, 234, 235, 236, 237, 238, 239, 240] (by decide +kernel) (by decide +kernel)
set_option maxRecDepth 20000 in
theorem gX8_load_X8_readSymbols : GoodIn wsX8_load (wsV RX8 301 RX8 yX8_readSymbols wsX8_readSymbols) := goodIn_app (goodIn_of _ (by decide +kernel)) ggX8_load_X8_readSymbols
set_option maxRecDepth 20000 in
theorem ggX8_load_X8_takesBack : GoodIn wsX8_load wsX8_takesBack := goodIn_r _ [204, 1, 13, 214, 215, 216, 217, 218, 219, 220, 221, 222, 223, 224, 225, 226, 227, 228, 229, 230, 231, 232, 233, 234, 235, 236, 237, 238, 239, 240] (by decide +kernel) (by decide +kernel)
set_option maxRecDepth 20000 in
theorem gX8_load_X8_takesBack : GoodIn wsX8_load (wsV RX8 304 RX8 yX8_takesBack wsX8_takesBack) := goodIn_app (goodIn_of _ (by decide +kernel)) ggX8_load_X8_takesBack
set_option maxRecDepth 20000 in
theorem ggX8_load_X8_throwing : GoodIn wsX8_load wsX8_throwing := goodIn_r _ [208, 209, 214, 215, 216, 217, 218, 219, 220, 221, 222, 223, 224, 225, 226, 227, 228, 229, 230, 231, 232, 233, 234, 235, 236, 237, 238, 239, 240] (by decide +kernel) (by decide +kernel)
set_option maxRecDepth 20000 in
theorem gX8_load_X8_throwing : GoodIn wsX8_load (wsV RX8 59 RX8 yX8_throwing wsX8_throwing) := goodIn_app (goodIn_of _ (by decide +kernel)) ggX8_load_X8_throwing
set_option maxRecDepth 20000 in
theorem ggX8_load_X8_told : GoodIn wsX8_load wsX8_told := goodIn_r _ [213, 209, 214, 215, 216, 217, 218, 219, 220, 221, 222, 223, 224, 225, 226, 227, 228, 229, 230, 231, 232, 233, 234, 235, 236, 237, 238, 239, 240] (by decide +kernel) (by decide +kernel)
set_option maxRecDepth 20000 in
theorem gX8_load_X8_told : GoodIn wsX8_load (wsV RX8 55 RX8 yX8_told wsX8_told) := goodIn_app (goodIn_of _ (by decide +kernel)) ggX8_load_X8_told
theorem dX8_load_0 : decode cX8_load 0 = .ok (.aload_n 0, 1) := by decide +kernel
theorem dX8_load_1 : decode cX8_load 1 = .ok (.invokevirtual 70, 3) := by decide +kernel
theorem dX8_load_4 : decode cX8_load 4 = .ok (.iconst 0, 1) := by decide +kernel
theorem dX8_load_5 : decode cX8_load 5 = .ok (.istore_n 1, 1) := by decide +kernel
theorem dX8_load_6 : decode cX8_load 6 = .ok (.iload_n 1, 1) := by decide +kernel
theorem dX8_load_7 : decode cX8_load 7 = .ok (.sipush 1726, 3) := by decide +kernel
theorem dX8_load_10 : decode cX8_load 10 = .ok (.if_icmp .ge 16, 3) := by decide +kernel
theorem dX8_load_13 : decode cX8_load 13 = .ok (.aload_n 0, 1) := by decide +kernel
theorem dX8_load_14 : decode cX8_load 14 = .ok (.getfield 17, 3) := by decide +kernel
theorem dX8_load_17 : decode cX8_load 17 = .ok (.iload_n 1, 1) := by decide +kernel
theorem dX8_load_18 : decode cX8_load 18 = .ok (.iconst 0, 1) := by decide +kernel
theorem dX8_load_19 : decode cX8_load 19 = .ok (.iastore, 1) := by decide +kernel
theorem dX8_load_20 : decode cX8_load 20 = .ok (.iinc 1 1, 3) := by decide +kernel
theorem dX8_load_23 : decode cX8_load 23 = .ok (.goto (-17), 3) := by decide +kernel
theorem dX8_load_26 : decode cX8_load 26 = .ok (.aload_n 0, 1) := by decide +kernel
theorem dX8_load_27 : decode cX8_load 27 = .ok (.invokevirtual 295, 3) := by decide +kernel
theorem dX8_load_30 : decode cX8_load 30 = .ok (.aload_n 0, 1) := by decide +kernel
theorem dX8_load_31 : decode cX8_load 31 = .ok (.invokevirtual 298, 3) := by decide +kernel
theorem dX8_load_34 : decode cX8_load 34 = .ok (.aload_n 0, 1) := by decide +kernel
theorem dX8_load_35 : decode cX8_load 35 = .ok (.invokevirtual 166, 3) := by decide +kernel
theorem dX8_load_38 : decode cX8_load 38 = .ok (.aload_n 0, 1) := by decide +kernel
theorem dX8_load_39 : decode cX8_load 39 = .ok (.getfield 248, 3) := by decide +kernel
theorem dX8_load_42 : decode cX8_load 42 = .ok (.ifCond .eq 17, 3) := by decide +kernel
theorem dX8_load_45 : decode cX8_load 45 = .ok (.aload_n 0, 1) := by decide +kernel
theorem dX8_load_46 : decode cX8_load 46 = .ok (.getfield 236, 3) := by decide +kernel
theorem dX8_load_49 : decode cX8_load 49 = .ok (.ifCond .eq 10, 3) := by decide +kernel
theorem dX8_load_52 : decode cX8_load 52 = .ok (.aload_n 0, 1) := by decide +kernel
theorem dX8_load_53 : decode cX8_load 53 = .ok (.invokevirtual 301, 3) := by decide +kernel
theorem dX8_load_56 : decode cX8_load 56 = .ok (.goto (-18), 3) := by decide +kernel
theorem dX8_load_59 : decode cX8_load 59 = .ok (.aload_n 0, 1) := by decide +kernel
theorem dX8_load_60 : decode cX8_load 60 = .ok (.iconst 0, 1) := by decide +kernel
theorem dX8_load_61 : decode cX8_load 61 = .ok (.putfield 153, 3) := by decide +kernel
theorem dX8_load_64 : decode cX8_load 64 = .ok (.aload_n 0, 1) := by decide +kernel
theorem dX8_load_65 : decode cX8_load 65 = .ok (.getfield 248, 3) := by decide +kernel
theorem dX8_load_68 : decode cX8_load 68 = .ok (.ifCond .ne 13, 3) := by decide +kernel
theorem dX8_load_71 : decode cX8_load 71 = .ok (.aload_n 0, 1) := by decide +kernel
theorem dX8_load_72 : decode cX8_load 72 = .ok (.invokevirtual 304, 3) := by decide +kernel
theorem dX8_load_75 : decode cX8_load 75 = .ok (.aload_n 0, 1) := by decide +kernel
theorem dX8_load_76 : decode cX8_load 76 = .ok (.iconst 1, 1) := by decide +kernel
theorem dX8_load_77 : decode cX8_load 77 = .ok (.invokevirtual 59, 3) := by decide +kernel
theorem dX8_load_80 : decode cX8_load 80 = .ok (.ireturn, 1) := by decide +kernel
theorem dX8_load_81 : decode cX8_load 81 = .ok (.aload_n 0, 1) := by decide +kernel
theorem dX8_load_82 : decode cX8_load 82 = .ok (.iconst 0, 1) := by decide +kernel
theorem dX8_load_83 : decode cX8_load 83 = .ok (.putfield 52, 3) := by decide +kernel
theorem dX8_load_86 : decode cX8_load 86 = .ok (.aload_n 0, 1) := by decide +kernel
theorem dX8_load_87 : decode cX8_load 87 = .ok (.getfield 30, 3) := by decide +kernel
theorem dX8_load_90 : decode cX8_load 90 = .ok (.iconst 0, 1) := by decide +kernel
theorem dX8_load_91 : decode cX8_load 91 = .ok (.iconst 0, 1) := by decide +kernel
theorem dX8_load_92 : decode cX8_load 92 = .ok (.bastore, 1) := by decide +kernel
theorem dX8_load_93 : decode cX8_load 93 = .ok (.aload_n 0, 1) := by decide +kernel
theorem dX8_load_94 : decode cX8_load 94 = .ok (.getfield 30, 3) := by decide +kernel
theorem dX8_load_97 : decode cX8_load 97 = .ok (.iconst 1, 1) := by decide +kernel
theorem dX8_load_98 : decode cX8_load 98 = .ok (.iconst 0, 1) := by decide +kernel
theorem dX8_load_99 : decode cX8_load 99 = .ok (.bastore, 1) := by decide +kernel
theorem dX8_load_100 : decode cX8_load 100 = .ok (.aload_n 0, 1) := by decide +kernel
theorem dX8_load_101 : decode cX8_load 101 = .ok (.iconst 0, 1) := by decide +kernel
theorem dX8_load_102 : decode cX8_load 102 = .ok (.putfield 307, 3) := by decide +kernel
theorem dX8_load_105 : decode cX8_load 105 = .ok (.aload_n 0, 1) := by decide +kernel
theorem dX8_load_106 : decode cX8_load 106 = .ok (.aload_n 0, 1) := by decide +kernel
theorem dX8_load_107 : decode cX8_load 107 = .ok (.getfield 17, 3) := by decide +kernel
theorem dX8_load_110 : decode cX8_load 110 = .ok (.bipush 6, 2) := by decide +kernel
theorem dX8_load_112 : decode cX8_load 112 = .ok (.iaload, 1) := by decide +kernel
theorem dX8_load_113 : decode cX8_load 113 = .ok (.invokevirtual 55, 3) := by decide +kernel
theorem dX8_load_116 : decode cX8_load 116 = .ok (.ireturn, 1) := by decide +kernel
theorem dX8_keepsDecoded_0 : decode cX8_keepsDecoded 0 = .ok (.aload_n 0, 1) := by decide +kernel
theorem dX8_keepsDecoded_1 : decode cX8_keepsDecoded 1 = .ok (.aload_n 0, 1) := by decide +kernel
theorem dX8_keepsDecoded_2 : decode cX8_keepsDecoded 2 = .ok (.getfield 178, 3) := by decide +kernel
theorem dX8_keepsDecoded_5 : decode cX8_keepsDecoded 5 = .ok (.putfield 307, 3) := by decide +kernel
theorem dX8_keepsDecoded_8 : decode cX8_keepsDecoded 8 = .ok (.iconst 0, 1) := by decide +kernel
theorem dX8_keepsDecoded_9 : decode cX8_keepsDecoded 9 = .ok (.istore_n 1, 1) := by decide +kernel
theorem dX8_keepsDecoded_10 : decode cX8_keepsDecoded 10 = .ok (.iload_n 1, 1) := by decide +kernel
theorem dX8_keepsDecoded_11 : decode cX8_keepsDecoded 11 = .ok (.aload_n 0, 1) := by decide +kernel
theorem dX8_keepsDecoded_12 : decode cX8_keepsDecoded 12 = .ok (.getfield 307, 3) := by decide +kernel
theorem dX8_keepsDecoded_15 : decode cX8_keepsDecoded 15 = .ok (.if_icmp .ge 21, 3) := by decide +kernel
theorem dX8_keepsDecoded_18 : decode cX8_keepsDecoded 18 = .ok (.aload_n 0, 1) := by decide +kernel
theorem dX8_keepsDecoded_19 : decode cX8_keepsDecoded 19 = .ok (.getfield 43, 3) := by decide +kernel
theorem dX8_keepsDecoded_22 : decode cX8_keepsDecoded 22 = .ok (.iload_n 1, 1) := by decide +kernel
theorem dX8_keepsDecoded_23 : decode cX8_keepsDecoded 23 = .ok (.aload_n 0, 1) := by decide +kernel
theorem dX8_keepsDecoded_24 : decode cX8_keepsDecoded 24 = .ok (.getfield 40, 3) := by decide +kernel
theorem dX8_keepsDecoded_27 : decode cX8_keepsDecoded 27 = .ok (.iload_n 1, 1) := by decide +kernel
theorem dX8_keepsDecoded_28 : decode cX8_keepsDecoded 28 = .ok (.iaload, 1) := by decide +kernel
theorem dX8_keepsDecoded_29 : decode cX8_keepsDecoded 29 = .ok (.iastore, 1) := by decide +kernel
theorem dX8_keepsDecoded_30 : decode cX8_keepsDecoded 30 = .ok (.iinc 1 1, 3) := by decide +kernel
theorem dX8_keepsDecoded_33 : decode cX8_keepsDecoded 33 = .ok (.goto (-23), 3) := by decide +kernel
theorem dX8_keepsDecoded_36 : decode cX8_keepsDecoded 36 = .ok (.return_, 1) := by decide +kernel
set_option maxRecDepth 20000 in
theorem ggX8_decode_X8_startsReading : GoodIn wsX8_decode wsX8_startsReading := goodIn_r _ [10, 11, 1, 12, 13, 14, 15, 9, 16, 4, 17, 18, 2, 19, 20, 21, 22, 23, 24, 25, 26, 27, 28, 29, 30, 31, 32, 33, 34, 3, 123, 124, 125, 126, 127, 128, 129, 130, 131, 132, 133, 134, 135, 136, 137, 138, 139, 140, 141, 142, 143, 144, 145, 146, 147, 148, 149] (by decide +kernel) (by decide +kernel)
set_option maxRecDepth 20000 in
theorem gX8_decode_X8_startsReading : GoodIn wsX8_decode (wsV RX8 295 RX8 yX8_startsReading wsX8_startsReading) := goodIn_app (goodIn_of _ (by decide +kernel)) ggX8_decode_X8_startsReading
set_option maxRecDepth 20000 in
theorem ggX8_decode_X8_startsDecoder : GoodIn wsX8_decode wsX8_startsDecoder := goodIn_r _ [38, 39, 40, 41, 42, 123, 124, 125, 126, 127, 128, 129, 130, 131, 132, 133, 134, 135, 136, 137, 138, 139, 140, 141, 142, 143, 144, 145, 146, 147, 148, 149] (by decide +kernel) (by decide +kernel)
set_option maxRecDepth 20000 in
theorem gX8_decode_X8_startsDecoder : GoodIn wsX8_decode (wsV RX8 210 RX8 yX8_startsDecoder wsX8_startsDecoder) := goodIn_app (goodIn_of _ (by decide +kernel)) ggX8_decode_X8_startsDecoder
set_option maxRecDepth 20000 in
theorem ggX8_decode_X8_takes : GoodIn wsX8_decode wsX8_takes := goodIn_r _ [46, 39, 40, 41, 42, 47, 48, 49, 9, 50, 51, 52, 53, 54, 55, 56, 57, 58, 59, 60, 61, 62, 63, 64, 65, 66, 67, 68, 69, 70, 71, 72, 73, 74, 75, 76, 77, 78, 79, 80, 81, 82, 83, 84, 85, 86, 87, 88, 89, 90, 91, 92, 93, 94, 95, 96, 97, 98, 99, 100, 101, 102, 103, 104, 123, 124, 125, 126, 127, 128, 129, 130, 131, 132, 133, 134, 135, 136, 137, 138, 139, 140, 141, 142, 143, 144, 145, 146, 147, 148, 149] (by decide +kernel) (by decide +kernel)
set_option maxRecDepth 20000 in
theorem gX8_decode_X8_takes : GoodIn wsX8_decode (wsV RX8 213 RX8 yX8_takes wsX8_takes) := goodIn_app (goodIn_of _ (by decide +kernel)) ggX8_decode_X8_takes
set_option maxRecDepth 20000 in
theorem ggX8_decode_X8_accepts : GoodIn wsX8_decode wsX8_accepts := goodIn_r _ [108, 1, 18, 12, 13, 14, 15, 9, 16, 11, 4, 17, 2, 19, 20, 21, 22, 23, 24, 25, 26, 27, 28, 29, 30, 31, 32, 33, 34, 3, 123, 124, 125, 126, 127, 128, 129, 130, 131, 132, 133, 134, 135, 136, 137, 138, 139, 140, 141, 142, 143, 144, 145, 146, 147, 148, 149] (by decide +kernel) (by decide +kernel)
set_option maxRecDepth 20000 in
theorem gX8_decode_X8_accepts : GoodIn wsX8_decode (wsV RX8 255 RX8 yX8_accepts wsX8_accepts) := goodIn_app (goodIn_of _ (by decide +kernel)) ggX8_decode_X8_accepts
set_option maxRecDepth 20000 in
theorem ggX8_decode_X8_throwing : GoodIn wsX8_decode wsX8_throwing := goodIn_r _ [112, 113, 123, 124, 125, 126, 127, 128, 129, 130, 131, 132, 133, 134, 135, 136, 137, 138, 139, 140, 141, 142, 143, 144, 145, 146, 147, 148, 149] (by decide +kernel) (by decide +kernel)
set_option maxRecDepth 20000 in
theorem gX8_decode_X8_throwing : GoodIn wsX8_decode (wsV RX8 59 RX8 yX8_throwing wsX8_throwing) := goodIn_app (goodIn_of _ (by decide +kernel)) ggX8_decode_X8_throwing
set_option maxRecDepth 20000 in
theorem ggX8_decode_X8_keepsDecoded : GoodIn wsX8_decode wsX8_keepsDecoded := goodIn_r _ [117, 42, 5, 118, 104, 123, 124, 125, 126, 127, 128, 129, 130, 131, 132, 133, 134, 135, 136, 137, 138, 139, 140, 141, 142, 143, 144, 145, 146, 147, 148, 149] (by decide +kernel) (by decide +kernel)
set_option maxRecDepth 20000 in
theorem gX8_decode_X8_keepsDecoded : GoodIn wsX8_decode (wsV RX8 310 RX8 yX8_keepsDecoded wsX8_keepsDecoded) := goodIn_app (goodIn_of _ (by decide +kernel)) ggX8_decode_X8_keepsDecoded
set_option maxRecDepth 20000 in
theorem ggX8_decode_X8_told : GoodIn wsX8_decode wsX8_told := goodIn_r _ [122, 113, 123, 124, 125, 126, 127, 128, 129, 130, 131, 132, 133, 134, 135, 136, 137, 138, 139, 140, 141, 142, 143, 144, 145, 146, 147, 148, 149] (by decide +kernel) (by decide +kernel)
set_option maxRecDepth 20000 in
theorem gX8_decode_X8_told : GoodIn wsX8_decode (wsV RX8 55 RX8 yX8_told wsX8_told) := goodIn_app (goodIn_of _ (by decide +kernel)) ggX8_decode_X8_told
theorem dX8_decode_0 : decode cX8_decode 0 = .ok (.aload_n 0, 1) := by decide +kernel
theorem dX8_decode_1 : decode cX8_decode 1 = .ok (.invokevirtual 295, 3) := by decide +kernel
theorem dX8_decode_4 : decode cX8_decode 4 = .ok (.aload_n 0, 1) := by decide +kernel
theorem dX8_decode_5 : decode cX8_decode 5 = .ok (.invokevirtual 210, 3) := by decide +kernel
theorem dX8_decode_8 : decode cX8_decode 8 = .ok (.aload_n 0, 1) := by decide +kernel
theorem dX8_decode_9 : decode cX8_decode 9 = .ok (.getfield 248, 3) := by decide +kernel
theorem dX8_decode_12 : decode cX8_decode 12 = .ok (.ifCond .eq 41, 3) := by decide +kernel
theorem dX8_decode_15 : decode cX8_decode 15 = .ok (.aload_n 0, 1) := by decide +kernel
theorem dX8_decode_16 : decode cX8_decode 16 = .ok (.getfield 236, 3) := by decide +kernel
theorem dX8_decode_19 : decode cX8_decode 19 = .ok (.ifCond .eq 34, 3) := by decide +kernel
theorem dX8_decode_22 : decode cX8_decode 22 = .ok (.aload_n 0, 1) := by decide +kernel
theorem dX8_decode_23 : decode cX8_decode 23 = .ok (.aload_n 0, 1) := by decide +kernel
theorem dX8_decode_24 : decode cX8_decode 24 = .ok (.getfield 236, 3) := by decide +kernel
theorem dX8_decode_27 : decode cX8_decode 27 = .ok (.iconst 2, 1) := by decide +kernel
theorem dX8_decode_28 : decode cX8_decode 28 = .ok (.if_icmp .ne 18, 3) := by decide +kernel
theorem dX8_decode_31 : decode cX8_decode 31 = .ok (.aload_n 0, 1) := by decide +kernel
theorem dX8_decode_32 : decode cX8_decode 32 = .ok (.aload_n 0, 1) := by decide +kernel
theorem dX8_decode_33 : decode cX8_decode 33 = .ok (.getfield 239, 3) := by decide +kernel
theorem dX8_decode_36 : decode cX8_decode 36 = .ok (.invokevirtual 213, 3) := by decide +kernel
theorem dX8_decode_39 : decode cX8_decode 39 = .ok (.ifCond .eq 7, 3) := by decide +kernel
theorem dX8_decode_42 : decode cX8_decode 42 = .ok (.iconst 1, 1) := by decide +kernel
theorem dX8_decode_43 : decode cX8_decode 43 = .ok (.goto 4, 3) := by decide +kernel
theorem dX8_decode_46 : decode cX8_decode 46 = .ok (.iconst 0, 1) := by decide +kernel
theorem dX8_decode_47 : decode cX8_decode 47 = .ok (.invokevirtual 255, 3) := by decide +kernel
theorem dX8_decode_50 : decode cX8_decode 50 = .ok (.goto (-42), 3) := by decide +kernel
theorem dX8_decode_53 : decode cX8_decode 53 = .ok (.aload_n 0, 1) := by decide +kernel
theorem dX8_decode_54 : decode cX8_decode 54 = .ok (.iconst 0, 1) := by decide +kernel
theorem dX8_decode_55 : decode cX8_decode 55 = .ok (.putfield 153, 3) := by decide +kernel
theorem dX8_decode_58 : decode cX8_decode 58 = .ok (.aload_n 0, 1) := by decide +kernel
theorem dX8_decode_59 : decode cX8_decode 59 = .ok (.getfield 248, 3) := by decide +kernel
theorem dX8_decode_62 : decode cX8_decode 62 = .ok (.ifCond .ne 9, 3) := by decide +kernel
theorem dX8_decode_65 : decode cX8_decode 65 = .ok (.aload_n 0, 1) := by decide +kernel
theorem dX8_decode_66 : decode cX8_decode 66 = .ok (.iconst 1, 1) := by decide +kernel
theorem dX8_decode_67 : decode cX8_decode 67 = .ok (.invokevirtual 59, 3) := by decide +kernel
theorem dX8_decode_70 : decode cX8_decode 70 = .ok (.ireturn, 1) := by decide +kernel
theorem dX8_decode_71 : decode cX8_decode 71 = .ok (.aload_n 0, 1) := by decide +kernel
theorem dX8_decode_72 : decode cX8_decode 72 = .ok (.invokevirtual 310, 3) := by decide +kernel
theorem dX8_decode_75 : decode cX8_decode 75 = .ok (.aload_n 0, 1) := by decide +kernel
theorem dX8_decode_76 : decode cX8_decode 76 = .ok (.aload_n 0, 1) := by decide +kernel
theorem dX8_decode_77 : decode cX8_decode 77 = .ok (.getfield 307, 3) := by decide +kernel
theorem dX8_decode_80 : decode cX8_decode 80 = .ok (.invokevirtual 55, 3) := by decide +kernel
theorem dX8_decode_83 : decode cX8_decode 83 = .ok (.ireturn, 1) := by decide +kernel
set_option maxRecDepth 20000 in
theorem ggX8_errorPosition_X8_told : GoodIn wsX8_errorPosition wsX8_told := goodIn_r _ [6, 7, 8, 9, 10, 11, 12, 13, 14, 15, 16, 17, 18, 19, 20, 21, 22, 23, 24, 25, 26, 27, 28, 29, 30, 31, 32, 33, 34] (by decide +kernel) (by decide +kernel)
set_option maxRecDepth 20000 in
theorem gX8_errorPosition_X8_told : GoodIn wsX8_errorPosition (wsV RX8 55 RX8 yX8_told wsX8_told) := goodIn_app (goodIn_of _ (by decide +kernel)) ggX8_errorPosition_X8_told
theorem dX8_errorPosition_0 : decode cX8_errorPosition 0 = .ok (.aload_n 0, 1) := by decide +kernel
theorem dX8_errorPosition_1 : decode cX8_errorPosition 1 = .ok (.aload_n 0, 1) := by decide +kernel
theorem dX8_errorPosition_2 : decode cX8_errorPosition 2 = .ok (.getfield 13, 3) := by decide +kernel
theorem dX8_errorPosition_5 : decode cX8_errorPosition 5 = .ok (.invokevirtual 55, 3) := by decide +kernel
theorem dX8_errorPosition_8 : decode cX8_errorPosition 8 = .ok (.ireturn, 1) := by decide +kernel
theorem dX8_tapes_0 : decode cX8_tapes 0 = .ok (.bipush 24, 2) := by decide +kernel
theorem dX8_tapes_2 : decode cX8_tapes 2 = .ok (.istore_n 2, 1) := by decide +kernel
theorem dX8_tapes_3 : decode cX8_tapes 3 = .ok (.iload_n 2, 1) := by decide +kernel
theorem dX8_tapes_4 : decode cX8_tapes 4 = .ok (.ifCond .lt 32, 3) := by decide +kernel
theorem dX8_tapes_7 : decode cX8_tapes 7 = .ok (.aload_n 0, 1) := by decide +kernel
theorem dX8_tapes_8 : decode cX8_tapes 8 = .ok (.getfield 7, 3) := by decide +kernel
theorem dX8_tapes_11 : decode cX8_tapes 11 = .ok (.aload_n 0, 1) := by decide +kernel
theorem dX8_tapes_12 : decode cX8_tapes 12 = .ok (.getfield 153, 3) := by decide +kernel
theorem dX8_tapes_15 : decode cX8_tapes 15 = .ok (.iload_n 1, 1) := by decide +kernel
theorem dX8_tapes_16 : decode cX8_tapes 16 = .ok (.iload_n 2, 1) := by decide +kernel
theorem dX8_tapes_17 : decode cX8_tapes 17 = .ok (.ishr, 1) := by decide +kernel
theorem dX8_tapes_18 : decode cX8_tapes 18 = .ok (.i2b, 1) := by decide +kernel
theorem dX8_tapes_19 : decode cX8_tapes 19 = .ok (.bastore, 1) := by decide +kernel
theorem dX8_tapes_20 : decode cX8_tapes 20 = .ok (.aload_n 0, 1) := by decide +kernel
theorem dX8_tapes_21 : decode cX8_tapes 21 = .ok (.dup, 1) := by decide +kernel
theorem dX8_tapes_22 : decode cX8_tapes 22 = .ok (.getfield 153, 3) := by decide +kernel
theorem dX8_tapes_25 : decode cX8_tapes 25 = .ok (.iconst 1, 1) := by decide +kernel
theorem dX8_tapes_26 : decode cX8_tapes 26 = .ok (.iadd, 1) := by decide +kernel
theorem dX8_tapes_27 : decode cX8_tapes 27 = .ok (.putfield 153, 3) := by decide +kernel
theorem dX8_tapes_30 : decode cX8_tapes 30 = .ok (.iinc 2 (-8), 3) := by decide +kernel
theorem dX8_tapes_33 : decode cX8_tapes 33 = .ok (.goto (-30), 3) := by decide +kernel
theorem dX8_tapes_36 : decode cX8_tapes 36 = .ok (.return_, 1) := by decide +kernel
set_option maxRecDepth 20000 in
theorem ggX8_append_X8_throwing : GoodIn wsX8_append wsX8_throwing := goodIn_r _ [6, 7, 17, 18, 19, 20, 21, 22, 23, 24, 25, 26, 27, 28, 29, 30, 31, 32, 33, 34, 35, 36, 37, 38, 39, 40, 41, 42, 43] (by decide +kernel) (by decide +kernel)
set_option maxRecDepth 20000 in
theorem gX8_append_X8_throwing : GoodIn wsX8_append (wsV RX8 59 RX8 yX8_throwing wsX8_throwing) := goodIn_app (goodIn_of _ (by decide +kernel)) ggX8_append_X8_throwing
set_option maxRecDepth 20000 in
theorem ggX8_append_X8_tapes : GoodIn wsX8_append wsX8_tapes := goodIn_r _ [11, 12, 1, 17, 18, 19, 20, 21, 22, 23, 24, 25, 26, 27, 28, 29, 30, 31, 32, 33, 34, 35, 36, 37, 38, 39, 40, 41, 42, 43] (by decide +kernel) (by decide +kernel)
set_option maxRecDepth 20000 in
theorem gX8_append_X8_tapes : GoodIn wsX8_append (wsV RX8 313 RX8 yX8_tapes wsX8_tapes) := goodIn_app (goodIn_of _ (by decide +kernel)) ggX8_append_X8_tapes
set_option maxRecDepth 20000 in
theorem ggX8_append_X8_told : GoodIn wsX8_append wsX8_told := goodIn_r _ [16, 7, 17, 18, 19, 20, 21, 22, 23, 24, 25, 26, 27, 28, 29, 30, 31, 32, 33, 34, 35, 36, 37, 38, 39, 40, 41, 42, 43] (by decide +kernel) (by decide +kernel)
set_option maxRecDepth 20000 in
theorem gX8_append_X8_told : GoodIn wsX8_append (wsV RX8 55 RX8 yX8_told wsX8_told) := goodIn_app (goodIn_of _ (by decide +kernel)) ggX8_append_X8_told
theorem dX8_append_0 : decode cX8_append 0 = .ok (.aload_n 0, 1) := by decide +kernel
theorem dX8_append_1 : decode cX8_append 1 = .ok (.getfield 153, 3) := by decide +kernel
theorem dX8_append_4 : decode cX8_append 4 = .ok (.sipush 780, 3) := by decide +kernel
theorem dX8_append_7 : decode cX8_append 7 = .ok (.if_icmp .le 9, 3) := by decide +kernel
theorem dX8_append_10 : decode cX8_append 10 = .ok (.aload_n 0, 1) := by decide +kernel
theorem dX8_append_11 : decode cX8_append 11 = .ok (.iconst 1, 1) := by decide +kernel
theorem dX8_append_12 : decode cX8_append 12 = .ok (.invokevirtual 59, 3) := by decide +kernel
theorem dX8_append_15 : decode cX8_append 15 = .ok (.ireturn, 1) := by decide +kernel
theorem dX8_append_16 : decode cX8_append 16 = .ok (.aload_n 0, 1) := by decide +kernel
theorem dX8_append_17 : decode cX8_append 17 = .ok (.iload_n 1, 1) := by decide +kernel
theorem dX8_append_18 : decode cX8_append 18 = .ok (.invokevirtual 313, 3) := by decide +kernel
theorem dX8_append_21 : decode cX8_append 21 = .ok (.aload_n 0, 1) := by decide +kernel
theorem dX8_append_22 : decode cX8_append 22 = .ok (.iload_n 2, 1) := by decide +kernel
theorem dX8_append_23 : decode cX8_append 23 = .ok (.invokevirtual 313, 3) := by decide +kernel
theorem dX8_append_26 : decode cX8_append 26 = .ok (.aload_n 0, 1) := by decide +kernel
theorem dX8_append_27 : decode cX8_append 27 = .ok (.iload_n 3, 1) := by decide +kernel
theorem dX8_append_28 : decode cX8_append 28 = .ok (.invokevirtual 313, 3) := by decide +kernel
theorem dX8_append_31 : decode cX8_append 31 = .ok (.aload_n 0, 1) := by decide +kernel
theorem dX8_append_32 : decode cX8_append 32 = .ok (.iload 4, 2) := by decide +kernel
theorem dX8_append_34 : decode cX8_append 34 = .ok (.invokevirtual 313, 3) := by decide +kernel
theorem dX8_append_37 : decode cX8_append 37 = .ok (.aload_n 0, 1) := by decide +kernel
theorem dX8_append_38 : decode cX8_append 38 = .ok (.iload 5, 2) := by decide +kernel
theorem dX8_append_40 : decode cX8_append 40 = .ok (.invokevirtual 313, 3) := by decide +kernel
theorem dX8_append_43 : decode cX8_append 43 = .ok (.aload_n 0, 1) := by decide +kernel
theorem dX8_append_44 : decode cX8_append 44 = .ok (.aload_n 0, 1) := by decide +kernel
theorem dX8_append_45 : decode cX8_append 45 = .ok (.getfield 153, 3) := by decide +kernel
theorem dX8_append_48 : decode cX8_append 48 = .ok (.invokevirtual 55, 3) := by decide +kernel
theorem dX8_append_51 : decode cX8_append 51 = .ok (.ireturn, 1) := by decide +kernel
set_option maxRecDepth 20000 in
theorem ggX8_truncate_X8_in : GoodIn wsX8_truncate wsX8_in := goodIn_r _ [5] (by decide +kernel) (by decide +kernel)
set_option maxRecDepth 20000 in
theorem gX8_truncate_X8_in : GoodIn wsX8_truncate (va_wsS RX8 62 yX8_in wsX8_in) := goodIn_app (goodIn_of _ (by decide +kernel)) ggX8_truncate_X8_in
set_option maxRecDepth 20000 in
theorem ggX8_truncate_X8_throwing : GoodIn wsX8_truncate wsX8_throwing := goodIn_r _ [9, 10, 15, 16, 17, 18, 19, 20, 21, 22, 23, 24, 25, 26, 27, 28, 29, 30, 31, 32, 33, 34, 35, 36, 37, 38, 39, 40, 41] (by decide +kernel) (by decide +kernel)
set_option maxRecDepth 20000 in
theorem gX8_truncate_X8_throwing : GoodIn wsX8_truncate (wsV RX8 59 RX8 yX8_throwing wsX8_throwing) := goodIn_app (goodIn_of _ (by decide +kernel)) ggX8_truncate_X8_throwing
set_option maxRecDepth 20000 in
theorem ggX8_truncate_X8_told : GoodIn wsX8_truncate wsX8_told := goodIn_r _ [14, 10, 15, 16, 17, 18, 19, 20, 21, 22, 23, 24, 25, 26, 27, 28, 29, 30, 31, 32, 33, 34, 35, 36, 37, 38, 39, 40, 41] (by decide +kernel) (by decide +kernel)
set_option maxRecDepth 20000 in
theorem gX8_truncate_X8_told : GoodIn wsX8_truncate (wsV RX8 55 RX8 yX8_told wsX8_told) := goodIn_app (goodIn_of _ (by decide +kernel)) ggX8_truncate_X8_told
theorem dX8_truncate_0 : decode cX8_truncate 0 = .ok (.iload_n 1, 1) := by decide +kernel
theorem dX8_truncate_1 : decode cX8_truncate 1 = .ok (.iconst 0, 1) := by decide +kernel
theorem dX8_truncate_2 : decode cX8_truncate 2 = .ok (.aload_n 0, 1) := by decide +kernel
theorem dX8_truncate_3 : decode cX8_truncate 3 = .ok (.getfield 153, 3) := by decide +kernel
theorem dX8_truncate_6 : decode cX8_truncate 6 = .ok (.invokestatic 62, 3) := by decide +kernel
theorem dX8_truncate_9 : decode cX8_truncate 9 = .ok (.ifCond .ne 9, 3) := by decide +kernel
theorem dX8_truncate_12 : decode cX8_truncate 12 = .ok (.aload_n 0, 1) := by decide +kernel
theorem dX8_truncate_13 : decode cX8_truncate 13 = .ok (.iconst 1, 1) := by decide +kernel
theorem dX8_truncate_14 : decode cX8_truncate 14 = .ok (.invokevirtual 59, 3) := by decide +kernel
theorem dX8_truncate_17 : decode cX8_truncate 17 = .ok (.ireturn, 1) := by decide +kernel
theorem dX8_truncate_18 : decode cX8_truncate 18 = .ok (.aload_n 0, 1) := by decide +kernel
theorem dX8_truncate_19 : decode cX8_truncate 19 = .ok (.dup, 1) := by decide +kernel
theorem dX8_truncate_20 : decode cX8_truncate 20 = .ok (.getfield 153, 3) := by decide +kernel
theorem dX8_truncate_23 : decode cX8_truncate 23 = .ok (.iload_n 1, 1) := by decide +kernel
theorem dX8_truncate_24 : decode cX8_truncate 24 = .ok (.isub, 1) := by decide +kernel
theorem dX8_truncate_25 : decode cX8_truncate 25 = .ok (.putfield 153, 3) := by decide +kernel
theorem dX8_truncate_28 : decode cX8_truncate 28 = .ok (.aload_n 0, 1) := by decide +kernel
theorem dX8_truncate_29 : decode cX8_truncate 29 = .ok (.aload_n 0, 1) := by decide +kernel
theorem dX8_truncate_30 : decode cX8_truncate 30 = .ok (.getfield 153, 3) := by decide +kernel
theorem dX8_truncate_33 : decode cX8_truncate 33 = .ok (.invokevirtual 55, 3) := by decide +kernel
theorem dX8_truncate_36 : decode cX8_truncate 36 = .ok (.ireturn, 1) := by decide +kernel
set_option maxRecDepth 20000 in
theorem ggX8_alphabetSize_X8_told : GoodIn wsX8_alphabetSize wsX8_told := goodIn_r _ [6, 7, 8, 9, 10, 11, 12, 13, 14, 15, 16, 17, 18, 19, 20, 21, 22, 23, 24, 25, 26, 27, 28, 29, 30, 31, 32, 33, 34] (by decide +kernel) (by decide +kernel)
set_option maxRecDepth 20000 in
theorem gX8_alphabetSize_X8_told : GoodIn wsX8_alphabetSize (wsV RX8 55 RX8 yX8_told wsX8_told) := goodIn_app (goodIn_of _ (by decide +kernel)) ggX8_alphabetSize_X8_told
theorem dX8_alphabetSize_0 : decode cX8_alphabetSize 0 = .ok (.aload_n 0, 1) := by decide +kernel
theorem dX8_alphabetSize_1 : decode cX8_alphabetSize 1 = .ok (.aload_n 0, 1) := by decide +kernel
theorem dX8_alphabetSize_2 : decode cX8_alphabetSize 2 = .ok (.getfield 17, 3) := by decide +kernel
theorem dX8_alphabetSize_5 : decode cX8_alphabetSize 5 = .ok (.iconst 0, 1) := by decide +kernel
theorem dX8_alphabetSize_6 : decode cX8_alphabetSize 6 = .ok (.iaload, 1) := by decide +kernel
theorem dX8_alphabetSize_7 : decode cX8_alphabetSize 7 = .ok (.invokevirtual 55, 3) := by decide +kernel
theorem dX8_alphabetSize_10 : decode cX8_alphabetSize 10 = .ok (.ireturn, 1) := by decide +kernel
set_option maxRecDepth 20000 in
theorem ggX8_greatestWidth_X8_told : GoodIn wsX8_greatestWidth wsX8_told := goodIn_r _ [6, 7, 8, 9, 10, 11, 12, 13, 14, 15, 16, 17, 18, 19, 20, 21, 22, 23, 24, 25, 26, 27, 28, 29, 30, 31, 32, 33, 34] (by decide +kernel) (by decide +kernel)
set_option maxRecDepth 20000 in
theorem gX8_greatestWidth_X8_told : GoodIn wsX8_greatestWidth (wsV RX8 55 RX8 yX8_told wsX8_told) := goodIn_app (goodIn_of _ (by decide +kernel)) ggX8_greatestWidth_X8_told
theorem dX8_greatestWidth_0 : decode cX8_greatestWidth 0 = .ok (.aload_n 0, 1) := by decide +kernel
theorem dX8_greatestWidth_1 : decode cX8_greatestWidth 1 = .ok (.aload_n 0, 1) := by decide +kernel
theorem dX8_greatestWidth_2 : decode cX8_greatestWidth 2 = .ok (.getfield 17, 3) := by decide +kernel
theorem dX8_greatestWidth_5 : decode cX8_greatestWidth 5 = .ok (.iconst 1, 1) := by decide +kernel
theorem dX8_greatestWidth_6 : decode cX8_greatestWidth 6 = .ok (.iaload, 1) := by decide +kernel
theorem dX8_greatestWidth_7 : decode cX8_greatestWidth 7 = .ok (.invokevirtual 55, 3) := by decide +kernel
theorem dX8_greatestWidth_10 : decode cX8_greatestWidth 10 = .ok (.ireturn, 1) := by decide +kernel
set_option maxRecDepth 20000 in
theorem ggX8_policy_X8_told : GoodIn wsX8_policy wsX8_told := goodIn_r _ [6, 7, 8, 9, 10, 11, 12, 13, 14, 15, 16, 17, 18, 19, 20, 21, 22, 23, 24, 25, 26, 27, 28, 29, 30, 31, 32, 33, 34] (by decide +kernel) (by decide +kernel)
set_option maxRecDepth 20000 in
theorem gX8_policy_X8_told : GoodIn wsX8_policy (wsV RX8 55 RX8 yX8_told wsX8_told) := goodIn_app (goodIn_of _ (by decide +kernel)) ggX8_policy_X8_told
theorem dX8_policy_0 : decode cX8_policy 0 = .ok (.aload_n 0, 1) := by decide +kernel
theorem dX8_policy_1 : decode cX8_policy 1 = .ok (.aload_n 0, 1) := by decide +kernel
theorem dX8_policy_2 : decode cX8_policy 2 = .ok (.getfield 17, 3) := by decide +kernel
theorem dX8_policy_5 : decode cX8_policy 5 = .ok (.iconst 2, 1) := by decide +kernel
theorem dX8_policy_6 : decode cX8_policy 6 = .ok (.iaload, 1) := by decide +kernel
theorem dX8_policy_7 : decode cX8_policy 7 = .ok (.invokevirtual 55, 3) := by decide +kernel
theorem dX8_policy_10 : decode cX8_policy 10 = .ok (.ireturn, 1) := by decide +kernel
set_option maxRecDepth 20000 in
theorem ggX8_limit_X8_told : GoodIn wsX8_limit wsX8_told := goodIn_r _ [6, 7, 8, 9, 10, 11, 12, 13, 14, 15, 16, 17, 18, 19, 20, 21, 22, 23, 24, 25, 26, 27, 28, 29, 30, 31, 32, 33, 34] (by decide +kernel) (by decide +kernel)
set_option maxRecDepth 20000 in
theorem gX8_limit_X8_told : GoodIn wsX8_limit (wsV RX8 55 RX8 yX8_told wsX8_told) := goodIn_app (goodIn_of _ (by decide +kernel)) ggX8_limit_X8_told
theorem dX8_limit_0 : decode cX8_limit 0 = .ok (.aload_n 0, 1) := by decide +kernel
theorem dX8_limit_1 : decode cX8_limit 1 = .ok (.aload_n 0, 1) := by decide +kernel
theorem dX8_limit_2 : decode cX8_limit 2 = .ok (.getfield 17, 3) := by decide +kernel
theorem dX8_limit_5 : decode cX8_limit 5 = .ok (.iconst 3, 1) := by decide +kernel
theorem dX8_limit_6 : decode cX8_limit 6 = .ok (.iaload, 1) := by decide +kernel
theorem dX8_limit_7 : decode cX8_limit 7 = .ok (.invokevirtual 55, 3) := by decide +kernel
theorem dX8_limit_10 : decode cX8_limit 10 = .ok (.ireturn, 1) := by decide +kernel
set_option maxRecDepth 20000 in
theorem ggX8_plainWidth_X8_plain : GoodIn wsX8_plainWidth wsX8_plain := goodIn_r _ [5, 6, 7, 8, 4, 9, 15, 16, 17, 18, 19, 20, 21, 22, 23, 24, 25, 26, 27, 28, 29, 30, 31, 32, 33, 34, 35, 36, 37, 38, 39, 40, 41] (by decide +kernel) (by decide +kernel)
set_option maxRecDepth 20000 in
theorem gX8_plainWidth_X8_plain : GoodIn wsX8_plainWidth (wsV RX8 108 RX8 yX8_plain wsX8_plain) := goodIn_app (goodIn_of _ (by decide +kernel)) ggX8_plainWidth_X8_plain
set_option maxRecDepth 20000 in
theorem ggX8_plainWidth_X8_told : GoodIn wsX8_plainWidth wsX8_told := goodIn_r _ [13, 14, 15, 16, 17, 18, 19, 20, 21, 22, 23, 24, 25, 26, 27, 28, 29, 30, 31, 32, 33, 34, 35, 36, 37, 38, 39, 40, 41] (by decide +kernel) (by decide +kernel)
set_option maxRecDepth 20000 in
theorem gX8_plainWidth_X8_told : GoodIn wsX8_plainWidth (wsV RX8 55 RX8 yX8_told wsX8_told) := goodIn_app (goodIn_of _ (by decide +kernel)) ggX8_plainWidth_X8_told
theorem dX8_plainWidth_0 : decode cX8_plainWidth 0 = .ok (.aload_n 0, 1) := by decide +kernel
theorem dX8_plainWidth_1 : decode cX8_plainWidth 1 = .ok (.aload_n 0, 1) := by decide +kernel
theorem dX8_plainWidth_2 : decode cX8_plainWidth 2 = .ok (.invokevirtual 108, 3) := by decide +kernel
theorem dX8_plainWidth_5 : decode cX8_plainWidth 5 = .ok (.invokevirtual 55, 3) := by decide +kernel
theorem dX8_plainWidth_8 : decode cX8_plainWidth 8 = .ok (.ireturn, 1) := by decide +kernel
set_option maxRecDepth 20000 in
theorem ggX8_clearCode_X8_clear : GoodIn wsX8_clearCode wsX8_clear := goodIn_r _ [5, 6, 12, 13, 14, 15, 16, 17, 18, 19, 20, 21, 22, 23, 24, 25, 26, 27, 28, 29, 30, 31, 32, 33, 34, 35, 36, 37, 38] (by decide +kernel) (by decide +kernel)
set_option maxRecDepth 20000 in
theorem gX8_clearCode_X8_clear : GoodIn wsX8_clearCode (wsV RX8 80 RX8 yX8_clear wsX8_clear) := goodIn_app (goodIn_of _ (by decide +kernel)) ggX8_clearCode_X8_clear
set_option maxRecDepth 20000 in
theorem ggX8_clearCode_X8_told : GoodIn wsX8_clearCode wsX8_told := goodIn_r _ [10, 11, 12, 13, 14, 15, 16, 17, 18, 19, 20, 21, 22, 23, 24, 25, 26, 27, 28, 29, 30, 31, 32, 33, 34, 35, 36, 37, 38] (by decide +kernel) (by decide +kernel)
set_option maxRecDepth 20000 in
theorem gX8_clearCode_X8_told : GoodIn wsX8_clearCode (wsV RX8 55 RX8 yX8_told wsX8_told) := goodIn_app (goodIn_of _ (by decide +kernel)) ggX8_clearCode_X8_told
theorem dX8_clearCode_0 : decode cX8_clearCode 0 = .ok (.aload_n 0, 1) := by decide +kernel
theorem dX8_clearCode_1 : decode cX8_clearCode 1 = .ok (.aload_n 0, 1) := by decide +kernel
theorem dX8_clearCode_2 : decode cX8_clearCode 2 = .ok (.invokevirtual 80, 3) := by decide +kernel
theorem dX8_clearCode_5 : decode cX8_clearCode 5 = .ok (.invokevirtual 55, 3) := by decide +kernel
theorem dX8_clearCode_8 : decode cX8_clearCode 8 = .ok (.ireturn, 1) := by decide +kernel
set_option maxRecDepth 20000 in
theorem ggX8_codeCount_X8_told : GoodIn wsX8_codeCount wsX8_told := goodIn_r _ [6, 7, 8, 9, 10, 11, 12, 13, 14, 15, 16, 17, 18, 19, 20, 21, 22, 23, 24, 25, 26, 27, 28, 29, 30, 31, 32, 33, 34] (by decide +kernel) (by decide +kernel)
set_option maxRecDepth 20000 in
theorem gX8_codeCount_X8_told : GoodIn wsX8_codeCount (wsV RX8 55 RX8 yX8_told wsX8_told) := goodIn_app (goodIn_of _ (by decide +kernel)) ggX8_codeCount_X8_told
theorem dX8_codeCount_0 : decode cX8_codeCount 0 = .ok (.aload_n 0, 1) := by decide +kernel
theorem dX8_codeCount_1 : decode cX8_codeCount 1 = .ok (.aload_n 0, 1) := by decide +kernel
theorem dX8_codeCount_2 : decode cX8_codeCount 2 = .ok (.getfield 17, 3) := by decide +kernel
theorem dX8_codeCount_5 : decode cX8_codeCount 5 = .ok (.iconst 4, 1) := by decide +kernel
theorem dX8_codeCount_6 : decode cX8_codeCount 6 = .ok (.iaload, 1) := by decide +kernel
theorem dX8_codeCount_7 : decode cX8_codeCount 7 = .ok (.invokevirtual 55, 3) := by decide +kernel
theorem dX8_codeCount_10 : decode cX8_codeCount 10 = .ok (.ireturn, 1) := by decide +kernel
set_option maxRecDepth 20000 in
theorem ggX8_capacity_X8_mostCodes : GoodIn wsX8_capacity wsX8_mostCodes := goodIn_r _ [5, 6, 12, 13, 14, 15, 16, 17, 18, 19, 20, 21, 22, 23, 24, 25, 26, 27, 28, 29, 30, 31, 32, 33, 34, 35, 36, 37, 38] (by decide +kernel) (by decide +kernel)
set_option maxRecDepth 20000 in
theorem gX8_capacity_X8_mostCodes : GoodIn wsX8_capacity (wsV RX8 76 RX8 yX8_mostCodes wsX8_mostCodes) := goodIn_app (goodIn_of _ (by decide +kernel)) ggX8_capacity_X8_mostCodes
set_option maxRecDepth 20000 in
theorem ggX8_capacity_X8_told : GoodIn wsX8_capacity wsX8_told := goodIn_r _ [10, 11, 12, 13, 14, 15, 16, 17, 18, 19, 20, 21, 22, 23, 24, 25, 26, 27, 28, 29, 30, 31, 32, 33, 34, 35, 36, 37, 38] (by decide +kernel) (by decide +kernel)
set_option maxRecDepth 20000 in
theorem gX8_capacity_X8_told : GoodIn wsX8_capacity (wsV RX8 55 RX8 yX8_told wsX8_told) := goodIn_app (goodIn_of _ (by decide +kernel)) ggX8_capacity_X8_told
theorem dX8_capacity_0 : decode cX8_capacity 0 = .ok (.aload_n 0, 1) := by decide +kernel
theorem dX8_capacity_1 : decode cX8_capacity 1 = .ok (.aload_n 0, 1) := by decide +kernel
theorem dX8_capacity_2 : decode cX8_capacity 2 = .ok (.invokevirtual 76, 3) := by decide +kernel
theorem dX8_capacity_5 : decode cX8_capacity 5 = .ok (.invokevirtual 55, 3) := by decide +kernel
theorem dX8_capacity_8 : decode cX8_capacity 8 = .ok (.ireturn, 1) := by decide +kernel
set_option maxRecDepth 20000 in
theorem ggX8_isFull_X8_isAllFull : GoodIn wsX8_isFull wsX8_isAllFull := goodIn_r _ [5, 6, 7, 8, 9, 4, 10, 16, 17, 18, 19, 20, 21, 22, 23, 24, 25, 26, 27, 28, 29, 30, 31, 32, 33, 34, 35, 36, 37, 38, 39, 40, 41, 42] (by decide +kernel) (by decide +kernel)
set_option maxRecDepth 20000 in
theorem gX8_isFull_X8_isAllFull : GoodIn wsX8_isFull (wsV RX8 121 RX8 yX8_isAllFull wsX8_isAllFull) := goodIn_app (goodIn_of _ (by decide +kernel)) ggX8_isFull_X8_isAllFull
set_option maxRecDepth 20000 in
theorem ggX8_isFull_X8_toldIf : GoodIn wsX8_isFull wsX8_toldIf := goodIn_r _ [14, 15, 16, 17, 18, 19, 20, 21, 22, 23, 24, 25, 26, 27, 28, 29, 30, 31, 32, 33, 34, 35, 36, 37, 38, 39, 40, 41, 42] (by decide +kernel) (by decide +kernel)
set_option maxRecDepth 20000 in
theorem gX8_isFull_X8_toldIf : GoodIn wsX8_isFull (wsV RX8 316 RX8 yX8_toldIf wsX8_toldIf) := goodIn_app (goodIn_of _ (by decide +kernel)) ggX8_isFull_X8_toldIf
theorem dX8_isFull_0 : decode cX8_isFull 0 = .ok (.aload_n 0, 1) := by decide +kernel
theorem dX8_isFull_1 : decode cX8_isFull 1 = .ok (.aload_n 0, 1) := by decide +kernel
theorem dX8_isFull_2 : decode cX8_isFull 2 = .ok (.invokevirtual 121, 3) := by decide +kernel
theorem dX8_isFull_5 : decode cX8_isFull 5 = .ok (.invokevirtual 316, 3) := by decide +kernel
theorem dX8_isFull_8 : decode cX8_isFull 8 = .ok (.ireturn, 1) := by decide +kernel
set_option maxRecDepth 20000 in
theorem ggX8_codeWidth_X8_bitsFor : GoodIn wsX8_codeWidth wsX8_bitsFor := goodIn_r _ [5] (by decide +kernel) (by decide +kernel)
set_option maxRecDepth 20000 in
theorem gX8_codeWidth_X8_bitsFor : GoodIn wsX8_codeWidth (va_wsS RX8 89 yX8_bitsFor wsX8_bitsFor) := goodIn_app (goodIn_of _ (by decide +kernel)) ggX8_codeWidth_X8_bitsFor
set_option maxRecDepth 20000 in
theorem ggX8_codeWidth_X8_told : GoodIn wsX8_codeWidth wsX8_told := goodIn_r _ [9, 10, 11, 12, 13, 14, 15, 16, 17, 18, 19, 20, 21, 22, 23, 24, 25, 26, 27, 28, 29, 30, 31, 32, 33, 34, 35, 36, 37] (by decide +kernel) (by decide +kernel)
set_option maxRecDepth 20000 in
theorem gX8_codeWidth_X8_told : GoodIn wsX8_codeWidth (wsV RX8 55 RX8 yX8_told wsX8_told) := goodIn_app (goodIn_of _ (by decide +kernel)) ggX8_codeWidth_X8_told
theorem dX8_codeWidth_0 : decode cX8_codeWidth 0 = .ok (.aload_n 0, 1) := by decide +kernel
theorem dX8_codeWidth_1 : decode cX8_codeWidth 1 = .ok (.aload_n 0, 1) := by decide +kernel
theorem dX8_codeWidth_2 : decode cX8_codeWidth 2 = .ok (.getfield 17, 3) := by decide +kernel
theorem dX8_codeWidth_5 : decode cX8_codeWidth 5 = .ok (.iconst 4, 1) := by decide +kernel
theorem dX8_codeWidth_6 : decode cX8_codeWidth 6 = .ok (.iaload, 1) := by decide +kernel
theorem dX8_codeWidth_7 : decode cX8_codeWidth 7 = .ok (.invokestatic 89, 3) := by decide +kernel
theorem dX8_codeWidth_10 : decode cX8_codeWidth 10 = .ok (.invokevirtual 55, 3) := by decide +kernel
theorem dX8_codeWidth_13 : decode cX8_codeWidth 13 = .ok (.ireturn, 1) := by decide +kernel
set_option maxRecDepth 20000 in
theorem ggX8_phraseLength_X8_isCode : GoodIn wsX8_phraseLength wsX8_isCode := goodIn_r _ [5, 6, 7, 8, 4, 9, 31, 32, 33, 34, 35, 36, 37, 38, 39, 40, 41, 42, 43, 44, 45, 46, 47, 48, 49, 50, 51, 52, 53, 54, 55, 56, 57] (by decide +kernel) (by decide +kernel)
set_option maxRecDepth 20000 in
theorem gX8_phraseLength_X8_isCode : GoodIn wsX8_phraseLength (wsV RX8 320 RX8 yX8_isCode wsX8_isCode) := goodIn_app (goodIn_of _ (by decide +kernel)) ggX8_phraseLength_X8_isCode
set_option maxRecDepth 20000 in
theorem ggX8_phraseLength_X8_throwing : GoodIn wsX8_phraseLength wsX8_throwing := goodIn_r _ [13, 14, 31, 32, 33, 34, 35, 36, 37, 38, 39, 40, 41, 42, 43, 44, 45, 46, 47, 48, 49, 50, 51, 52, 53, 54, 55, 56, 57] (by decide +kernel) (by decide +kernel)
set_option maxRecDepth 20000 in
theorem gX8_phraseLength_X8_throwing : GoodIn wsX8_phraseLength (wsV RX8 59 RX8 yX8_throwing wsX8_throwing) := goodIn_app (goodIn_of _ (by decide +kernel)) ggX8_phraseLength_X8_throwing
set_option maxRecDepth 20000 in
theorem ggX8_phraseLength_X8_lengthOf : GoodIn wsX8_phraseLength wsX8_lengthOf := goodIn_r _ [18, 6, 19, 20, 21, 4, 22, 23, 24, 25, 26, 31, 32, 33, 34, 35, 36, 37, 38, 39, 40, 41, 42, 43, 44, 45, 46, 47, 48, 49, 50, 51, 52, 53, 54, 55, 56, 57] (by decide +kernel) (by decide +kernel)
set_option maxRecDepth 20000 in
theorem gX8_phraseLength_X8_lengthOf : GoodIn wsX8_phraseLength (wsV RX8 86 RX8 yX8_lengthOf wsX8_lengthOf) := goodIn_app (goodIn_of _ (by decide +kernel)) ggX8_phraseLength_X8_lengthOf
set_option maxRecDepth 20000 in
theorem ggX8_phraseLength_X8_told : GoodIn wsX8_phraseLength wsX8_told := goodIn_r _ [30, 14, 31, 32, 33, 34, 35, 36, 37, 38, 39, 40, 41, 42, 43, 44, 45, 46, 47, 48, 49, 50, 51, 52, 53, 54, 55, 56, 57] (by decide +kernel) (by decide +kernel)
set_option maxRecDepth 20000 in
theorem gX8_phraseLength_X8_told : GoodIn wsX8_phraseLength (wsV RX8 55 RX8 yX8_told wsX8_told) := goodIn_app (goodIn_of _ (by decide +kernel)) ggX8_phraseLength_X8_told
theorem dX8_phraseLength_0 : decode cX8_phraseLength 0 = .ok (.aload_n 0, 1) := by decide +kernel
theorem dX8_phraseLength_1 : decode cX8_phraseLength 1 = .ok (.iload_n 1, 1) := by decide +kernel
theorem dX8_phraseLength_2 : decode cX8_phraseLength 2 = .ok (.invokevirtual 320, 3) := by decide +kernel
theorem dX8_phraseLength_5 : decode cX8_phraseLength 5 = .ok (.ifCond .ne 9, 3) := by decide +kernel
theorem dX8_phraseLength_8 : decode cX8_phraseLength 8 = .ok (.aload_n 0, 1) := by decide +kernel
theorem dX8_phraseLength_9 : decode cX8_phraseLength 9 = .ok (.iconst 1, 1) := by decide +kernel
theorem dX8_phraseLength_10 : decode cX8_phraseLength 10 = .ok (.invokevirtual 59, 3) := by decide +kernel
theorem dX8_phraseLength_13 : decode cX8_phraseLength 13 = .ok (.ireturn, 1) := by decide +kernel
theorem dX8_phraseLength_14 : decode cX8_phraseLength 14 = .ok (.aload_n 0, 1) := by decide +kernel
theorem dX8_phraseLength_15 : decode cX8_phraseLength 15 = .ok (.aload_n 0, 1) := by decide +kernel
theorem dX8_phraseLength_16 : decode cX8_phraseLength 16 = .ok (.iload_n 1, 1) := by decide +kernel
theorem dX8_phraseLength_17 : decode cX8_phraseLength 17 = .ok (.invokevirtual 86, 3) := by decide +kernel
theorem dX8_phraseLength_20 : decode cX8_phraseLength 20 = .ok (.invokevirtual 55, 3) := by decide +kernel
theorem dX8_phraseLength_23 : decode cX8_phraseLength 23 = .ok (.ireturn, 1) := by decide +kernel
set_option maxRecDepth 20000 in
theorem ggX8_phraseSymbol_X8_isCode : GoodIn wsX8_phraseSymbol wsX8_isCode := goodIn_r _ [5, 6, 7, 8, 4, 9, 35, 36, 37, 38, 39, 40, 41, 42, 43, 44, 45, 46, 47, 48, 49, 50, 51, 52, 53, 54, 55, 56, 57, 58, 59, 60, 61] (by decide +kernel) (by decide +kernel)
set_option maxRecDepth 20000 in
theorem gX8_phraseSymbol_X8_isCode : GoodIn wsX8_phraseSymbol (wsV RX8 320 RX8 yX8_isCode wsX8_isCode) := goodIn_app (goodIn_of _ (by decide +kernel)) ggX8_phraseSymbol_X8_isCode
set_option maxRecDepth 20000 in
theorem ggX8_phraseSymbol_X8_throwing : GoodIn wsX8_phraseSymbol wsX8_throwing := goodIn_r _ [13, 14, 35, 36, 37, 38, 39, 40, 41, 42, 43, 44, 45, 46, 47, 48, 49, 50, 51, 52, 53, 54, 55, 56, 57, 58, 59, 60, 61] (by decide +kernel) (by decide +kernel)
set_option maxRecDepth 20000 in
theorem gX8_phraseSymbol_X8_throwing : GoodIn wsX8_phraseSymbol (wsV RX8 59 RX8 yX8_throwing wsX8_throwing) := goodIn_app (goodIn_of _ (by decide +kernel)) ggX8_phraseSymbol_X8_throwing
set_option maxRecDepth 20000 in
theorem ggX8_phraseSymbol_X8_lengthOf : GoodIn wsX8_phraseSymbol wsX8_lengthOf := goodIn_r _ [18, 6, 19, 20, 21, 4, 22, 23, 24, 25, 26, 35, 36, 37, 38, 39, 40, 41, 42, 43, 44, 45, 46, 47, 48, 49, 50, 51, 52, 53, 54, 55, 56, 57, 58, 59, 60, 61] (by decide +kernel) (by decide +kernel)
set_option maxRecDepth 20000 in
theorem gX8_phraseSymbol_X8_lengthOf : GoodIn wsX8_phraseSymbol (wsV RX8 86 RX8 yX8_lengthOf wsX8_lengthOf) := goodIn_app (goodIn_of _ (by decide +kernel)) ggX8_phraseSymbol_X8_lengthOf
set_option maxRecDepth 20000 in
theorem ggX8_phraseSymbol_X8_in : GoodIn wsX8_phraseSymbol wsX8_in := goodIn_r _ [9] (by decide +kernel) (by decide +kernel)
set_option maxRecDepth 20000 in
theorem gX8_phraseSymbol_X8_in : GoodIn wsX8_phraseSymbol (va_wsS RX8 62 yX8_in wsX8_in) := goodIn_app (goodIn_of _ (by decide +kernel)) ggX8_phraseSymbol_X8_in
set_option maxRecDepth 20000 in
theorem ggX8_phraseSymbol_X8_symbolOf : GoodIn wsX8_phraseSymbol wsX8_symbolOf := goodIn_r _ [30, 6, 15, 16, 17, 4, 18, 19, 20, 21, 22, 23, 24, 25, 26, 35, 36, 37, 38, 39, 40, 41, 42, 43, 44, 45, 46, 47, 48, 49, 50, 51, 52, 53, 54, 55, 56, 57, 58, 59, 60, 61] (by decide +kernel) (by decide +kernel)
set_option maxRecDepth 20000 in
theorem gX8_phraseSymbol_X8_symbolOf : GoodIn wsX8_phraseSymbol (wsV RX8 323 RX8 yX8_symbolOf wsX8_symbolOf) := goodIn_app (goodIn_of _ (by decide +kernel)) ggX8_phraseSymbol_X8_symbolOf
set_option maxRecDepth 20000 in
theorem ggX8_phraseSymbol_X8_told : GoodIn wsX8_phraseSymbol wsX8_told := goodIn_r _ [34, 14, 35, 36, 37, 38, 39, 40, 41, 42, 43, 44, 45, 46, 47, 48, 49, 50, 51, 52, 53, 54, 55, 56, 57, 58, 59, 60, 61] (by decide +kernel) (by decide +kernel)
set_option maxRecDepth 20000 in
theorem gX8_phraseSymbol_X8_told : GoodIn wsX8_phraseSymbol (wsV RX8 55 RX8 yX8_told wsX8_told) := goodIn_app (goodIn_of _ (by decide +kernel)) ggX8_phraseSymbol_X8_told
theorem dX8_phraseSymbol_0 : decode cX8_phraseSymbol 0 = .ok (.aload_n 0, 1) := by decide +kernel
theorem dX8_phraseSymbol_1 : decode cX8_phraseSymbol 1 = .ok (.iload_n 1, 1) := by decide +kernel
theorem dX8_phraseSymbol_2 : decode cX8_phraseSymbol 2 = .ok (.invokevirtual 320, 3) := by decide +kernel
theorem dX8_phraseSymbol_5 : decode cX8_phraseSymbol 5 = .ok (.ifCond .ne 9, 3) := by decide +kernel
theorem dX8_phraseSymbol_8 : decode cX8_phraseSymbol 8 = .ok (.aload_n 0, 1) := by decide +kernel
theorem dX8_phraseSymbol_9 : decode cX8_phraseSymbol 9 = .ok (.iconst 1, 1) := by decide +kernel
theorem dX8_phraseSymbol_10 : decode cX8_phraseSymbol 10 = .ok (.invokevirtual 59, 3) := by decide +kernel
theorem dX8_phraseSymbol_13 : decode cX8_phraseSymbol 13 = .ok (.ireturn, 1) := by decide +kernel
theorem dX8_phraseSymbol_14 : decode cX8_phraseSymbol 14 = .ok (.iload_n 2, 1) := by decide +kernel
theorem dX8_phraseSymbol_15 : decode cX8_phraseSymbol 15 = .ok (.iconst 0, 1) := by decide +kernel
theorem dX8_phraseSymbol_16 : decode cX8_phraseSymbol 16 = .ok (.aload_n 0, 1) := by decide +kernel
theorem dX8_phraseSymbol_17 : decode cX8_phraseSymbol 17 = .ok (.iload_n 1, 1) := by decide +kernel
theorem dX8_phraseSymbol_18 : decode cX8_phraseSymbol 18 = .ok (.invokevirtual 86, 3) := by decide +kernel
theorem dX8_phraseSymbol_21 : decode cX8_phraseSymbol 21 = .ok (.iconst 1, 1) := by decide +kernel
theorem dX8_phraseSymbol_22 : decode cX8_phraseSymbol 22 = .ok (.isub, 1) := by decide +kernel
theorem dX8_phraseSymbol_23 : decode cX8_phraseSymbol 23 = .ok (.invokestatic 62, 3) := by decide +kernel
theorem dX8_phraseSymbol_26 : decode cX8_phraseSymbol 26 = .ok (.ifCond .ne 9, 3) := by decide +kernel
theorem dX8_phraseSymbol_29 : decode cX8_phraseSymbol 29 = .ok (.aload_n 0, 1) := by decide +kernel
theorem dX8_phraseSymbol_30 : decode cX8_phraseSymbol 30 = .ok (.iconst 1, 1) := by decide +kernel
theorem dX8_phraseSymbol_31 : decode cX8_phraseSymbol 31 = .ok (.invokevirtual 59, 3) := by decide +kernel
theorem dX8_phraseSymbol_34 : decode cX8_phraseSymbol 34 = .ok (.ireturn, 1) := by decide +kernel
theorem dX8_phraseSymbol_35 : decode cX8_phraseSymbol 35 = .ok (.aload_n 0, 1) := by decide +kernel
theorem dX8_phraseSymbol_36 : decode cX8_phraseSymbol 36 = .ok (.aload_n 0, 1) := by decide +kernel
theorem dX8_phraseSymbol_37 : decode cX8_phraseSymbol 37 = .ok (.iload_n 1, 1) := by decide +kernel
theorem dX8_phraseSymbol_38 : decode cX8_phraseSymbol 38 = .ok (.iload_n 2, 1) := by decide +kernel
theorem dX8_phraseSymbol_39 : decode cX8_phraseSymbol 39 = .ok (.invokevirtual 323, 3) := by decide +kernel
theorem dX8_phraseSymbol_42 : decode cX8_phraseSymbol 42 = .ok (.invokevirtual 55, 3) := by decide +kernel
theorem dX8_phraseSymbol_45 : decode cX8_phraseSymbol 45 = .ok (.ireturn, 1) := by decide +kernel
set_option maxRecDepth 20000 in
theorem ggX8_prefixOf_X8_isCode : GoodIn wsX8_prefixOf wsX8_isCode := goodIn_r _ [6, 1, 7, 8, 5, 9, 27, 28, 29, 30, 31, 32, 33, 34, 35, 36, 37, 38, 39, 40, 41, 42, 43, 44, 45, 46, 47, 48, 49, 50, 51, 52, 53] (by decide +kernel) (by decide +kernel)
set_option maxRecDepth 20000 in
theorem gX8_prefixOf_X8_isCode : GoodIn wsX8_prefixOf (wsV RX8 320 RX8 yX8_isCode wsX8_isCode) := goodIn_app (goodIn_of _ (by decide +kernel)) ggX8_prefixOf_X8_isCode
