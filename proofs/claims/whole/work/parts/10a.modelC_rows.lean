set_option maxRecDepth 20000 in
theorem ggX4_wrong_X4_isIn : GoodIn wsX4_wrong wsX4_isIn := goodIn_r _ [6] (by decide +kernel) (by decide +kernel)
set_option maxRecDepth 20000 in
theorem gX4_wrong_X4_isIn : GoodIn wsX4_wrong (va_wsS RX4 79 yX4_isIn wsX4_isIn) := goodIn_app (goodIn_of _ (by decide +kernel)) ggX4_wrong_X4_isIn
theorem dX4_wrong_0 : decode cX4_wrong 0 = .ok (.aload_n 2, 1) := by decide +kernel
theorem dX4_wrong_1 : decode cX4_wrong 1 = .ok (.iload_n 3, 1) := by decide +kernel
theorem dX4_wrong_2 : decode cX4_wrong 2 = .ok (.iaload, 1) := by decide +kernel
theorem dX4_wrong_3 : decode cX4_wrong 3 = .ok (.iconst (-1), 1) := by decide +kernel
theorem dX4_wrong_4 : decode cX4_wrong 4 = .ok (.if_icmp .ne 5, 3) := by decide +kernel
theorem dX4_wrong_7 : decode cX4_wrong 7 = .ok (.iconst 0, 1) := by decide +kernel
theorem dX4_wrong_8 : decode cX4_wrong 8 = .ok (.ireturn, 1) := by decide +kernel
theorem dX4_wrong_9 : decode cX4_wrong 9 = .ok (.iload_n 1, 1) := by decide +kernel
theorem dX4_wrong_10 : decode cX4_wrong 10 = .ok (.ifCond .ne 38, 3) := by decide +kernel
theorem dX4_wrong_13 : decode cX4_wrong 13 = .ok (.aload_n 2, 1) := by decide +kernel
theorem dX4_wrong_14 : decode cX4_wrong 14 = .ok (.iload_n 3, 1) := by decide +kernel
theorem dX4_wrong_15 : decode cX4_wrong 15 = .ok (.iconst 1, 1) := by decide +kernel
theorem dX4_wrong_16 : decode cX4_wrong 16 = .ok (.iadd, 1) := by decide +kernel
theorem dX4_wrong_17 : decode cX4_wrong 17 = .ok (.iaload, 1) := by decide +kernel
theorem dX4_wrong_18 : decode cX4_wrong 18 = .ok (.iconst 0, 1) := by decide +kernel
theorem dX4_wrong_19 : decode cX4_wrong 19 = .ok (.sipush 1000, 3) := by decide +kernel
theorem dX4_wrong_22 : decode cX4_wrong 22 = .ok (.invokestatic 79, 3) := by decide +kernel
theorem dX4_wrong_25 : decode cX4_wrong 25 = .ok (.ifCond .ne 7, 3) := by decide +kernel
theorem dX4_wrong_28 : decode cX4_wrong 28 = .ok (.iconst 1, 1) := by decide +kernel
theorem dX4_wrong_29 : decode cX4_wrong 29 = .ok (.goto 18, 3) := by decide +kernel
theorem dX4_wrong_32 : decode cX4_wrong 32 = .ok (.aload_n 2, 1) := by decide +kernel
theorem dX4_wrong_33 : decode cX4_wrong 33 = .ok (.iload_n 3, 1) := by decide +kernel
theorem dX4_wrong_34 : decode cX4_wrong 34 = .ok (.iconst 2, 1) := by decide +kernel
theorem dX4_wrong_35 : decode cX4_wrong 35 = .ok (.iadd, 1) := by decide +kernel
theorem dX4_wrong_36 : decode cX4_wrong 36 = .ok (.iaload, 1) := by decide +kernel
theorem dX4_wrong_37 : decode cX4_wrong 37 = .ok (.iconst (-1), 1) := by decide +kernel
theorem dX4_wrong_38 : decode cX4_wrong 38 = .ok (.if_icmp .ne 7, 3) := by decide +kernel
theorem dX4_wrong_41 : decode cX4_wrong 41 = .ok (.iconst 2, 1) := by decide +kernel
theorem dX4_wrong_42 : decode cX4_wrong 42 = .ok (.goto 5, 3) := by decide +kernel
theorem dX4_wrong_45 : decode cX4_wrong 45 = .ok (.bipush (-4), 2) := by decide +kernel
theorem dX4_wrong_47 : decode cX4_wrong 47 = .ok (.ireturn, 1) := by decide +kernel
theorem dX4_wrong_48 : decode cX4_wrong 48 = .ok (.iconst 1, 1) := by decide +kernel
theorem dX4_wrong_49 : decode cX4_wrong 49 = .ok (.istore 4, 2) := by decide +kernel
theorem dX4_wrong_51 : decode cX4_wrong 51 = .ok (.iload 4, 2) := by decide +kernel
theorem dX4_wrong_53 : decode cX4_wrong 53 = .ok (.iconst 3, 1) := by decide +kernel
theorem dX4_wrong_54 : decode cX4_wrong 54 = .ok (.if_icmp .ge 33, 3) := by decide +kernel
theorem dX4_wrong_57 : decode cX4_wrong 57 = .ok (.aload_n 2, 1) := by decide +kernel
theorem dX4_wrong_58 : decode cX4_wrong 58 = .ok (.iload_n 3, 1) := by decide +kernel
theorem dX4_wrong_59 : decode cX4_wrong 59 = .ok (.iload 4, 2) := by decide +kernel
theorem dX4_wrong_61 : decode cX4_wrong 61 = .ok (.iadd, 1) := by decide +kernel
theorem dX4_wrong_62 : decode cX4_wrong 62 = .ok (.iaload, 1) := by decide +kernel
theorem dX4_wrong_63 : decode cX4_wrong 63 = .ok (.iconst 0, 1) := by decide +kernel
theorem dX4_wrong_64 : decode cX4_wrong 64 = .ok (.aload_n 0, 1) := by decide +kernel
theorem dX4_wrong_65 : decode cX4_wrong 65 = .ok (.getfield 60, 3) := by decide +kernel
theorem dX4_wrong_68 : decode cX4_wrong 68 = .ok (.iconst 0, 1) := by decide +kernel
theorem dX4_wrong_69 : decode cX4_wrong 69 = .ok (.iaload, 1) := by decide +kernel
theorem dX4_wrong_70 : decode cX4_wrong 70 = .ok (.iconst 1, 1) := by decide +kernel
theorem dX4_wrong_71 : decode cX4_wrong 71 = .ok (.isub, 1) := by decide +kernel
theorem dX4_wrong_72 : decode cX4_wrong 72 = .ok (.invokestatic 79, 3) := by decide +kernel
theorem dX4_wrong_75 : decode cX4_wrong 75 = .ok (.ifCond .ne 6, 3) := by decide +kernel
theorem dX4_wrong_78 : decode cX4_wrong 78 = .ok (.iload 4, 2) := by decide +kernel
theorem dX4_wrong_80 : decode cX4_wrong 80 = .ok (.ireturn, 1) := by decide +kernel
theorem dX4_wrong_81 : decode cX4_wrong 81 = .ok (.iinc 4 1, 3) := by decide +kernel
theorem dX4_wrong_84 : decode cX4_wrong 84 = .ok (.goto (-33), 3) := by decide +kernel
theorem dX4_wrong_87 : decode cX4_wrong 87 = .ok (.aload_n 2, 1) := by decide +kernel
theorem dX4_wrong_88 : decode cX4_wrong 88 = .ok (.iload_n 3, 1) := by decide +kernel
theorem dX4_wrong_89 : decode cX4_wrong 89 = .ok (.iconst 3, 1) := by decide +kernel
theorem dX4_wrong_90 : decode cX4_wrong 90 = .ok (.iadd, 1) := by decide +kernel
theorem dX4_wrong_91 : decode cX4_wrong 91 = .ok (.iaload, 1) := by decide +kernel
theorem dX4_wrong_92 : decode cX4_wrong 92 = .ok (.iconst 0, 1) := by decide +kernel
theorem dX4_wrong_93 : decode cX4_wrong 93 = .ok (.ldc 136, 2) := by decide +kernel
theorem dX4_wrong_95 : decode cX4_wrong 95 = .ok (.invokestatic 79, 3) := by decide +kernel
theorem dX4_wrong_98 : decode cX4_wrong 98 = .ok (.ifCond .ne 7, 3) := by decide +kernel
theorem dX4_wrong_101 : decode cX4_wrong 101 = .ok (.iconst 3, 1) := by decide +kernel
theorem dX4_wrong_102 : decode cX4_wrong 102 = .ok (.goto 22, 3) := by decide +kernel
theorem dX4_wrong_105 : decode cX4_wrong 105 = .ok (.aload_n 2, 1) := by decide +kernel
theorem dX4_wrong_106 : decode cX4_wrong 106 = .ok (.iload_n 3, 1) := by decide +kernel
theorem dX4_wrong_107 : decode cX4_wrong 107 = .ok (.iconst 1, 1) := by decide +kernel
theorem dX4_wrong_108 : decode cX4_wrong 108 = .ok (.iadd, 1) := by decide +kernel
theorem dX4_wrong_109 : decode cX4_wrong 109 = .ok (.iaload, 1) := by decide +kernel
theorem dX4_wrong_110 : decode cX4_wrong 110 = .ok (.aload_n 2, 1) := by decide +kernel
theorem dX4_wrong_111 : decode cX4_wrong 111 = .ok (.iload_n 3, 1) := by decide +kernel
theorem dX4_wrong_112 : decode cX4_wrong 112 = .ok (.iconst 2, 1) := by decide +kernel
theorem dX4_wrong_113 : decode cX4_wrong 113 = .ok (.iadd, 1) := by decide +kernel
theorem dX4_wrong_114 : decode cX4_wrong 114 = .ok (.iaload, 1) := by decide +kernel
theorem dX4_wrong_115 : decode cX4_wrong 115 = .ok (.if_icmp .ne 7, 3) := by decide +kernel
theorem dX4_wrong_118 : decode cX4_wrong 118 = .ok (.iconst 2, 1) := by decide +kernel
theorem dX4_wrong_119 : decode cX4_wrong 119 = .ok (.goto 5, 3) := by decide +kernel
theorem dX4_wrong_122 : decode cX4_wrong 122 = .ok (.bipush (-4), 2) := by decide +kernel
theorem dX4_wrong_124 : decode cX4_wrong 124 = .ok (.ireturn, 1) := by decide +kernel
theorem dX4_take_0 : decode cX4_take 0 = .ok (.aload_n 0, 1) := by decide +kernel
theorem dX4_take_1 : decode cX4_take 1 = .ok (.iload_n 1, 1) := by decide +kernel
theorem dX4_take_2 : decode cX4_take 2 = .ok (.putfield 66, 3) := by decide +kernel
theorem dX4_take_5 : decode cX4_take 5 = .ok (.iconst 0, 1) := by decide +kernel
theorem dX4_take_6 : decode cX4_take 6 = .ok (.istore 4, 2) := by decide +kernel
theorem dX4_take_8 : decode cX4_take 8 = .ok (.iload 4, 2) := by decide +kernel
theorem dX4_take_10 : decode cX4_take 10 = .ok (.iconst 4, 1) := by decide +kernel
theorem dX4_take_11 : decode cX4_take 11 = .ok (.if_icmp .ge 22, 3) := by decide +kernel
theorem dX4_take_14 : decode cX4_take 14 = .ok (.aload_n 0, 1) := by decide +kernel
theorem dX4_take_15 : decode cX4_take 15 = .ok (.getfield 70, 3) := by decide +kernel
theorem dX4_take_18 : decode cX4_take 18 = .ok (.iload 4, 2) := by decide +kernel
theorem dX4_take_20 : decode cX4_take 20 = .ok (.aload_n 2, 1) := by decide +kernel
theorem dX4_take_21 : decode cX4_take 21 = .ok (.iload_n 3, 1) := by decide +kernel
theorem dX4_take_22 : decode cX4_take 22 = .ok (.iload 4, 2) := by decide +kernel
theorem dX4_take_24 : decode cX4_take 24 = .ok (.iadd, 1) := by decide +kernel
theorem dX4_take_25 : decode cX4_take 25 = .ok (.iaload, 1) := by decide +kernel
theorem dX4_take_26 : decode cX4_take 26 = .ok (.iastore, 1) := by decide +kernel
theorem dX4_take_27 : decode cX4_take 27 = .ok (.iinc 4 1, 3) := by decide +kernel
theorem dX4_take_30 : decode cX4_take 30 = .ok (.goto (-22), 3) := by decide +kernel
theorem dX4_take_33 : decode cX4_take 33 = .ok (.return_, 1) := by decide +kernel
set_option maxRecDepth 20000 in
theorem ggX4_isCell_X4_isTable : GoodIn wsX4_isCell wsX4_isTable := goodIn_r _ [5] (by decide +kernel) (by decide +kernel)
set_option maxRecDepth 20000 in
theorem gX4_isCell_X4_isTable : GoodIn wsX4_isCell (va_wsS RX4 137 yX4_isTable wsX4_isTable) := goodIn_app (goodIn_of _ (by decide +kernel)) ggX4_isCell_X4_isTable
set_option maxRecDepth 20000 in
theorem ggX4_isCell_X4_isIn : GoodIn wsX4_isCell wsX4_isIn := goodIn_r _ [8] (by decide +kernel) (by decide +kernel)
set_option maxRecDepth 20000 in
theorem gX4_isCell_X4_isIn : GoodIn wsX4_isCell (va_wsS RX4 79 yX4_isIn wsX4_isIn) := goodIn_app (goodIn_of _ (by decide +kernel)) ggX4_isCell_X4_isIn
set_option maxRecDepth 20000 in
theorem ggX4_isCell_X4_items : GoodIn wsX4_isCell wsX4_items := goodIn_r _ [11] (by decide +kernel) (by decide +kernel)
set_option maxRecDepth 20000 in
theorem gX4_isCell_X4_items : GoodIn wsX4_isCell (va_wsS RX4 151 yX4_items wsX4_items) := goodIn_app (goodIn_of _ (by decide +kernel)) ggX4_isCell_X4_items
theorem dX4_isCell_0 : decode cX4_isCell 0 = .ok (.iload_n 1, 1) := by decide +kernel
theorem dX4_isCell_1 : decode cX4_isCell 1 = .ok (.invokestatic 137, 3) := by decide +kernel
theorem dX4_isCell_4 : decode cX4_isCell 4 = .ok (.ifCond .eq 37, 3) := by decide +kernel
theorem dX4_isCell_7 : decode cX4_isCell 7 = .ok (.iload_n 2, 1) := by decide +kernel
theorem dX4_isCell_8 : decode cX4_isCell 8 = .ok (.iconst 0, 1) := by decide +kernel
theorem dX4_isCell_9 : decode cX4_isCell 9 = .ok (.aload_n 0, 1) := by decide +kernel
theorem dX4_isCell_10 : decode cX4_isCell 10 = .ok (.getfield 60, 3) := by decide +kernel
theorem dX4_isCell_13 : decode cX4_isCell 13 = .ok (.iload_n 1, 1) := by decide +kernel
theorem dX4_isCell_14 : decode cX4_isCell 14 = .ok (.iaload, 1) := by decide +kernel
theorem dX4_isCell_15 : decode cX4_isCell 15 = .ok (.iconst 1, 1) := by decide +kernel
theorem dX4_isCell_16 : decode cX4_isCell 16 = .ok (.isub, 1) := by decide +kernel
theorem dX4_isCell_17 : decode cX4_isCell 17 = .ok (.invokestatic 79, 3) := by decide +kernel
theorem dX4_isCell_20 : decode cX4_isCell 20 = .ok (.ifCond .eq 21, 3) := by decide +kernel
theorem dX4_isCell_23 : decode cX4_isCell 23 = .ok (.iload_n 3, 1) := by decide +kernel
theorem dX4_isCell_24 : decode cX4_isCell 24 = .ok (.iconst 0, 1) := by decide +kernel
theorem dX4_isCell_25 : decode cX4_isCell 25 = .ok (.iload_n 1, 1) := by decide +kernel
theorem dX4_isCell_26 : decode cX4_isCell 26 = .ok (.invokestatic 151, 3) := by decide +kernel
theorem dX4_isCell_29 : decode cX4_isCell 29 = .ok (.iconst 1, 1) := by decide +kernel
theorem dX4_isCell_30 : decode cX4_isCell 30 = .ok (.isub, 1) := by decide +kernel
theorem dX4_isCell_31 : decode cX4_isCell 31 = .ok (.invokestatic 79, 3) := by decide +kernel
theorem dX4_isCell_34 : decode cX4_isCell 34 = .ok (.ifCond .eq 7, 3) := by decide +kernel
theorem dX4_isCell_37 : decode cX4_isCell 37 = .ok (.iconst 1, 1) := by decide +kernel
theorem dX4_isCell_38 : decode cX4_isCell 38 = .ok (.goto 4, 3) := by decide +kernel
theorem dX4_isCell_41 : decode cX4_isCell 41 = .ok (.iconst 0, 1) := by decide +kernel
theorem dX4_isCell_42 : decode cX4_isCell 42 = .ok (.ireturn, 1) := by decide +kernel
set_option maxRecDepth 20000 in
theorem ggX4_toldOf_X4_kindOf : GoodIn wsX4_toldOf wsX4_kindOf := goodIn_r _ [4] (by decide +kernel) (by decide +kernel)
set_option maxRecDepth 20000 in
theorem gX4_toldOf_X4_kindOf : GoodIn wsX4_toldOf (va_wsS RX4 157 yX4_kindOf wsX4_kindOf) := goodIn_app (goodIn_of _ (by decide +kernel)) ggX4_toldOf_X4_kindOf
set_option maxRecDepth 20000 in
theorem ggX4_toldOf_X4_codeNow : GoodIn wsX4_toldOf wsX4_codeNow := goodIn_r _ [8, 9, 10, 11, 12, 13, 14, 15, 16, 17, 18, 19, 20, 21, 22, 23, 24, 25, 26, 27, 28] (by decide +kernel) (by decide +kernel)
set_option maxRecDepth 20000 in
theorem gX4_toldOf_X4_codeNow : GoodIn wsX4_toldOf (wsV RX4 160 RX4 yX4_codeNow wsX4_codeNow) := goodIn_app (goodIn_of _ (by decide +kernel)) ggX4_toldOf_X4_codeNow
theorem dX4_toldOf_0 : decode cX4_toldOf 0 = .ok (.iload_n 1, 1) := by decide +kernel
theorem dX4_toldOf_1 : decode cX4_toldOf 1 = .ok (.iload_n 2, 1) := by decide +kernel
theorem dX4_toldOf_2 : decode cX4_toldOf 2 = .ok (.invokestatic 157, 3) := by decide +kernel
theorem dX4_toldOf_5 : decode cX4_toldOf 5 = .ok (.istore 4, 2) := by decide +kernel
theorem dX4_toldOf_7 : decode cX4_toldOf 7 = .ok (.iload 4, 2) := by decide +kernel
theorem dX4_toldOf_9 : decode cX4_toldOf 9 = .ok (.bipush (-4), 2) := by decide +kernel
theorem dX4_toldOf_11 : decode cX4_toldOf 11 = .ok (.if_icmp .ne 7, 3) := by decide +kernel
theorem dX4_toldOf_14 : decode cX4_toldOf 14 = .ok (.iload_n 3, 1) := by decide +kernel
theorem dX4_toldOf_15 : decode cX4_toldOf 15 = .ok (.goto 10, 3) := by decide +kernel
theorem dX4_toldOf_18 : decode cX4_toldOf 18 = .ok (.aload_n 0, 1) := by decide +kernel
theorem dX4_toldOf_19 : decode cX4_toldOf 19 = .ok (.iload 4, 2) := by decide +kernel
theorem dX4_toldOf_21 : decode cX4_toldOf 21 = .ok (.iload_n 3, 1) := by decide +kernel
theorem dX4_toldOf_22 : decode cX4_toldOf 22 = .ok (.invokevirtual 160, 3) := by decide +kernel
theorem dX4_toldOf_25 : decode cX4_toldOf 25 = .ok (.ireturn, 1) := by decide +kernel
