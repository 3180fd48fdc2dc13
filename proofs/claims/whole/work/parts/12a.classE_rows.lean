theorem dX3_keepFound_0 : decode cX3_keepFound 0 = .ok (.aload_n 0, 1) := by decide +kernel
theorem dX3_keepFound_1 : decode cX3_keepFound 1 = .ok (.getfield 76, 3) := by decide +kernel
theorem dX3_keepFound_4 : decode cX3_keepFound 4 = .ok (.bipush 30, 2) := by decide +kernel
theorem dX3_keepFound_6 : decode cX3_keepFound 6 = .ok (.if_icmp .ge 23, 3) := by decide +kernel
theorem dX3_keepFound_9 : decode cX3_keepFound 9 = .ok (.aload_n 0, 1) := by decide +kernel
theorem dX3_keepFound_10 : decode cX3_keepFound 10 = .ok (.getfield 73, 3) := by decide +kernel
theorem dX3_keepFound_13 : decode cX3_keepFound 13 = .ok (.aload_n 0, 1) := by decide +kernel
theorem dX3_keepFound_14 : decode cX3_keepFound 14 = .ok (.getfield 76, 3) := by decide +kernel
theorem dX3_keepFound_17 : decode cX3_keepFound 17 = .ok (.iload_n 1, 1) := by decide +kernel
theorem dX3_keepFound_18 : decode cX3_keepFound 18 = .ok (.iastore, 1) := by decide +kernel
theorem dX3_keepFound_19 : decode cX3_keepFound 19 = .ok (.aload_n 0, 1) := by decide +kernel
theorem dX3_keepFound_20 : decode cX3_keepFound 20 = .ok (.dup, 1) := by decide +kernel
theorem dX3_keepFound_21 : decode cX3_keepFound 21 = .ok (.getfield 76, 3) := by decide +kernel
theorem dX3_keepFound_24 : decode cX3_keepFound 24 = .ok (.iconst 1, 1) := by decide +kernel
theorem dX3_keepFound_25 : decode cX3_keepFound 25 = .ok (.iadd, 1) := by decide +kernel
theorem dX3_keepFound_26 : decode cX3_keepFound 26 = .ok (.putfield 76, 3) := by decide +kernel
theorem dX3_keepFound_29 : decode cX3_keepFound 29 = .ok (.return_, 1) := by decide +kernel
set_option maxRecDepth 20000 in
theorem ggX3_filter_X3_tableNumbered : GoodIn wsX3_filter wsX3_tableNumbered := goodIn_r _ [7, 8, 9, 77, 78, 79, 80, 81, 82, 83, 84, 85, 86, 87, 88, 89, 90] (by decide +kernel) (by decide +kernel)
set_option maxRecDepth 20000 in
theorem gX3_filter_X3_tableNumbered : GoodIn wsX3_filter (wsV RX3 158 RX3 yX3_tableNumbered wsX3_tableNumbered) := goodIn_app (goodIn_of _ (by decide +kernel)) ggX3_filter_X3_tableNumbered
set_option maxRecDepth 20000 in
theorem ggX3_filter_X3_setNumbered : GoodIn wsX3_filter wsX3_setNumbered := goodIn_r _ [13, 14, 77, 78, 79, 80, 81, 82, 83, 84, 85, 86, 87, 88, 89, 90] (by decide +kernel) (by decide +kernel)
set_option maxRecDepth 20000 in
theorem gX3_filter_X3_setNumbered : GoodIn wsX3_filter (wsV RX3 128 RX3 yX3_setNumbered wsX3_setNumbered) := goodIn_app (goodIn_of _ (by decide +kernel)) ggX3_filter_X3_setNumbered
set_option maxRecDepth 20000 in
theorem ggX3_filter_X2_hasItem : GoodIn wsX3_filter wsX2_hasItem := goodIn_r _ [18, 19, 72, 73, 74, 75, 76] (by decide +kernel) (by decide +kernel)
set_option maxRecDepth 20000 in
theorem gX3_filter_X2_hasItem_n181 : GoodIn wsX3_filter (wsX2_hasItem) := ggX3_filter_X2_hasItem
set_option maxRecDepth 20000 in
theorem ggX3_filter_X3_draftOf : GoodIn wsX3_filter wsX3_draftOf := goodIn_r _ [23, 2, 24, 16, 25, 26, 27, 72, 73, 74, 75, 76, 77, 78, 79, 80, 81, 82, 83, 84, 85, 86, 87, 88, 89, 90] (by decide +kernel) (by decide +kernel)
set_option maxRecDepth 20000 in
theorem gX3_filter_X3_draftOf : GoodIn wsX3_filter (wsV RX3 188 RX3 yX3_draftOf wsX3_draftOf) := goodIn_app (goodIn_of _ (by decide +kernel)) ggX3_filter_X3_draftOf
set_option maxRecDepth 20000 in
theorem ggX3_filter_X3_fromCell : GoodIn wsX3_filter wsX3_fromCell := goodIn_r _ [31, 32, 33, 34, 6, 35, 8, 36, 37, 38, 39, 40, 41, 42, 43, 44, 45, 46, 72, 73, 74, 75, 76, 77, 78, 79, 80, 81, 82, 83, 84, 85, 86, 87, 88, 89, 90, 91, 92, 93, 94, 95, 96, 97] (by decide +kernel) (by decide +kernel)
set_option maxRecDepth 20000 in
theorem gX3_filter_X3_fromCell : GoodIn wsX3_filter (wsV RX3 185 RX3 yX3_fromCell wsX3_fromCell) := goodIn_app (goodIn_of _ (by decide +kernel)) ggX3_filter_X3_fromCell
set_option maxRecDepth 20000 in
theorem ggX3_filter_X3_wrongItem : GoodIn wsX3_filter wsX3_wrongItem := goodIn_r _ [50, 2, 9, 51, 52, 53, 6, 54, 8, 55, 32, 33, 34, 35, 36, 56, 57, 58, 72, 73, 74, 75, 76, 77, 78, 79, 80, 81, 82, 83, 84, 85, 86, 87, 88, 89, 90, 91, 92, 93, 94, 95, 96, 97] (by decide +kernel) (by decide +kernel)
set_option maxRecDepth 20000 in
theorem gX3_filter_X3_wrongItem : GoodIn wsX3_filter (wsV RX3 193 RX3 yX3_wrongItem wsX3_wrongItem) := goodIn_app (goodIn_of _ (by decide +kernel)) ggX3_filter_X3_wrongItem
set_option maxRecDepth 20000 in
theorem ggX3_filter_X1_holds : GoodIn wsX3_filter wsX1_holds := goodIn_r _ [62, 63, 64, 43, 38, 44, 45, 46, 70, 71, 91, 92, 93, 94, 95, 96, 97] (by decide +kernel) (by decide +kernel)
set_option maxRecDepth 20000 in
theorem gX3_filter_X1_holds_n143 : GoodIn wsX3_filter (wsX1_holds) := ggX3_filter_X1_holds
set_option maxRecDepth 20000 in
theorem ggX3_filter_X3_isFromTo : GoodIn wsX3_filter wsX3_isFromTo := goodIn_r _ [58] (by decide +kernel) (by decide +kernel)
set_option maxRecDepth 20000 in
theorem gX3_filter_X3_isFromTo : GoodIn wsX3_filter (va_wsS RX3 196 yX3_isFromTo wsX3_isFromTo) := goodIn_app (goodIn_of _ (by decide +kernel)) ggX3_filter_X3_isFromTo
set_option maxRecDepth 20000 in
theorem ggX3_filter_X3_keepFound : GoodIn wsX3_filter wsX3_keepFound := goodIn_r _ [68, 1, 69, 77, 78, 79, 80, 81, 82, 83, 84, 85, 86, 87, 88, 89, 90] (by decide +kernel) (by decide +kernel)
set_option maxRecDepth 20000 in
theorem gX3_filter_X3_keepFound : GoodIn wsX3_filter (wsV RX3 200 RX3 yX3_keepFound wsX3_keepFound) := goodIn_app (goodIn_of _ (by decide +kernel)) ggX3_filter_X3_keepFound
theorem dX3_filter_0 : decode cX3_filter 0 = .ok (.aload_n 0, 1) := by decide +kernel
theorem dX3_filter_1 : decode cX3_filter 1 = .ok (.iload_n 1, 1) := by decide +kernel
theorem dX3_filter_2 : decode cX3_filter 2 = .ok (.invokevirtual 158, 3) := by decide +kernel
theorem dX3_filter_5 : decode cX3_filter 5 = .ok (.astore 6, 2) := by decide +kernel
theorem dX3_filter_7 : decode cX3_filter 7 = .ok (.aload_n 0, 1) := by decide +kernel
theorem dX3_filter_8 : decode cX3_filter 8 = .ok (.iload_n 2, 1) := by decide +kernel
theorem dX3_filter_9 : decode cX3_filter 9 = .ok (.invokevirtual 128, 3) := by decide +kernel
theorem dX3_filter_12 : decode cX3_filter 12 = .ok (.astore 7, 2) := by decide +kernel
theorem dX3_filter_14 : decode cX3_filter 14 = .ok (.aload 6, 2) := by decide +kernel
theorem dX3_filter_16 : decode cX3_filter 16 = .ok (.ifnull 21, 3) := by decide +kernel
theorem dX3_filter_19 : decode cX3_filter 19 = .ok (.aload 7, 2) := by decide +kernel
theorem dX3_filter_21 : decode cX3_filter 21 = .ok (.ifnull 16, 3) := by decide +kernel
theorem dX3_filter_24 : decode cX3_filter 24 = .ok (.iload_n 3, 1) := by decide +kernel
theorem dX3_filter_25 : decode cX3_filter 25 = .ok (.ifCond .eq 12, 3) := by decide +kernel
theorem dX3_filter_28 : decode cX3_filter 28 = .ok (.aload 6, 2) := by decide +kernel
theorem dX3_filter_30 : decode cX3_filter 30 = .ok (.iload_n 3, 1) := by decide +kernel
theorem dX3_filter_31 : decode cX3_filter 31 = .ok (.invokevirtual 181, 3) := by decide +kernel
theorem dX3_filter_34 : decode cX3_filter 34 = .ok (.ifCond .ne 5, 3) := by decide +kernel
theorem dX3_filter_37 : decode cX3_filter 37 = .ok (.iconst (-1), 1) := by decide +kernel
theorem dX3_filter_38 : decode cX3_filter 38 = .ok (.ireturn, 1) := by decide +kernel
theorem dX3_filter_39 : decode cX3_filter 39 = .ok (.aload 7, 2) := by decide +kernel
theorem dX3_filter_41 : decode cX3_filter 41 = .ok (.getfield 140, 3) := by decide +kernel
theorem dX3_filter_44 : decode cX3_filter 44 = .ok (.aload 6, 2) := by decide +kernel
theorem dX3_filter_46 : decode cX3_filter 46 = .ok (.getfield 192, 3) := by decide +kernel
theorem dX3_filter_49 : decode cX3_filter 49 = .ok (.if_acmp .eq 6, 3) := by decide +kernel
theorem dX3_filter_52 : decode cX3_filter 52 = .ok (.bipush (-3), 2) := by decide +kernel
theorem dX3_filter_54 : decode cX3_filter 54 = .ok (.ireturn, 1) := by decide +kernel
theorem dX3_filter_55 : decode cX3_filter 55 = .ok (.aload_n 0, 1) := by decide +kernel
theorem dX3_filter_56 : decode cX3_filter 56 = .ok (.iconst 0, 1) := by decide +kernel
theorem dX3_filter_57 : decode cX3_filter 57 = .ok (.putfield 76, 3) := by decide +kernel
theorem dX3_filter_60 : decode cX3_filter 60 = .ok (.iconst 0, 1) := by decide +kernel
theorem dX3_filter_61 : decode cX3_filter 61 = .ok (.istore 8, 2) := by decide +kernel
theorem dX3_filter_63 : decode cX3_filter 63 = .ok (.iload 8, 2) := by decide +kernel
theorem dX3_filter_65 : decode cX3_filter 65 = .ok (.aload 6, 2) := by decide +kernel
theorem dX3_filter_67 : decode cX3_filter 67 = .ok (.getfield 162, 3) := by decide +kernel
theorem dX3_filter_70 : decode cX3_filter 70 = .ok (.if_icmp .ge 74, 3) := by decide +kernel
theorem dX3_filter_73 : decode cX3_filter 73 = .ok (.aload_n 0, 1) := by decide +kernel
theorem dX3_filter_74 : decode cX3_filter 74 = .ok (.aload 6, 2) := by decide +kernel
theorem dX3_filter_76 : decode cX3_filter 76 = .ok (.iload 8, 2) := by decide +kernel
theorem dX3_filter_78 : decode cX3_filter 78 = .ok (.invokevirtual 188, 3) := by decide +kernel
theorem dX3_filter_81 : decode cX3_filter 81 = .ok (.aload_n 0, 1) := by decide +kernel
theorem dX3_filter_82 : decode cX3_filter 82 = .ok (.aload 6, 2) := by decide +kernel
theorem dX3_filter_84 : decode cX3_filter 84 = .ok (.iload_n 3, 1) := by decide +kernel
theorem dX3_filter_85 : decode cX3_filter 85 = .ok (.aload_n 0, 1) := by decide +kernel
theorem dX3_filter_86 : decode cX3_filter 86 = .ok (.getfield 63, 3) := by decide +kernel
theorem dX3_filter_89 : decode cX3_filter 89 = .ok (.iload_n 3, 1) := by decide +kernel
theorem dX3_filter_90 : decode cX3_filter 90 = .ok (.iaload, 1) := by decide +kernel
theorem dX3_filter_91 : decode cX3_filter 91 = .ok (.invokevirtual 185, 3) := by decide +kernel
theorem dX3_filter_94 : decode cX3_filter 94 = .ok (.istore 9, 2) := by decide +kernel
theorem dX3_filter_96 : decode cX3_filter 96 = .ok (.aload_n 0, 1) := by decide +kernel
theorem dX3_filter_97 : decode cX3_filter 97 = .ok (.aload 6, 2) := by decide +kernel
theorem dX3_filter_99 : decode cX3_filter 99 = .ok (.invokevirtual 193, 3) := by decide +kernel
theorem dX3_filter_102 : decode cX3_filter 102 = .ok (.iconst (-1), 1) := by decide +kernel
theorem dX3_filter_103 : decode cX3_filter 103 = .ok (.if_icmp .ne 35, 3) := by decide +kernel
theorem dX3_filter_106 : decode cX3_filter 106 = .ok (.aload 7, 2) := by decide +kernel
theorem dX3_filter_108 : decode cX3_filter 108 = .ok (.aload_n 0, 1) := by decide +kernel
theorem dX3_filter_109 : decode cX3_filter 109 = .ok (.getfield 63, 3) := by decide +kernel
theorem dX3_filter_112 : decode cX3_filter 112 = .ok (.iconst 0, 1) := by decide +kernel
theorem dX3_filter_113 : decode cX3_filter 113 = .ok (.iaload, 1) := by decide +kernel
theorem dX3_filter_114 : decode cX3_filter 114 = .ok (.invokevirtual 143, 3) := by decide +kernel
theorem dX3_filter_117 : decode cX3_filter 117 = .ok (.ifCond .eq 21, 3) := by decide +kernel
theorem dX3_filter_120 : decode cX3_filter 120 = .ok (.iload 9, 2) := by decide +kernel
theorem dX3_filter_122 : decode cX3_filter 122 = .ok (.iload 4, 2) := by decide +kernel
theorem dX3_filter_124 : decode cX3_filter 124 = .ok (.iload 5, 2) := by decide +kernel
theorem dX3_filter_126 : decode cX3_filter 126 = .ok (.invokestatic 196, 3) := by decide +kernel
theorem dX3_filter_129 : decode cX3_filter 129 = .ok (.ifCond .eq 9, 3) := by decide +kernel
theorem dX3_filter_132 : decode cX3_filter 132 = .ok (.aload_n 0, 1) := by decide +kernel
theorem dX3_filter_133 : decode cX3_filter 133 = .ok (.iload 8, 2) := by decide +kernel
theorem dX3_filter_135 : decode cX3_filter 135 = .ok (.invokevirtual 200, 3) := by decide +kernel
theorem dX3_filter_138 : decode cX3_filter 138 = .ok (.iinc 8 1, 3) := by decide +kernel
theorem dX3_filter_141 : decode cX3_filter 141 = .ok (.goto (-78), 3) := by decide +kernel
theorem dX3_filter_144 : decode cX3_filter 144 = .ok (.aload_n 0, 1) := by decide +kernel
theorem dX3_filter_145 : decode cX3_filter 145 = .ok (.getfield 76, 3) := by decide +kernel
theorem dX3_filter_148 : decode cX3_filter 148 = .ok (.ireturn, 1) := by decide +kernel
set_option maxRecDepth 20000 in
theorem ggX3_sum_X3_tableNumbered : GoodIn wsX3_sum wsX3_tableNumbered := goodIn_r _ [7, 8, 9, 69, 70, 71, 72, 73, 74, 75, 76, 77, 78, 79, 80, 81, 82] (by decide +kernel) (by decide +kernel)
set_option maxRecDepth 20000 in
theorem gX3_sum_X3_tableNumbered : GoodIn wsX3_sum (wsV RX3 158 RX3 yX3_tableNumbered wsX3_tableNumbered) := goodIn_app (goodIn_of _ (by decide +kernel)) ggX3_sum_X3_tableNumbered
set_option maxRecDepth 20000 in
theorem ggX3_sum_X3_draftOf : GoodIn wsX3_sum wsX3_draftOf := goodIn_r _ [13, 2, 14, 15, 16, 17, 18, 64, 65, 66, 67, 68, 69, 70, 71, 72, 73, 74, 75, 76, 77, 78, 79, 80, 81, 82] (by decide +kernel) (by decide +kernel)
set_option maxRecDepth 20000 in
theorem gX3_sum_X3_draftOf : GoodIn wsX3_sum (wsV RX3 188 RX3 yX3_draftOf wsX3_draftOf) := goodIn_app (goodIn_of _ (by decide +kernel)) ggX3_sum_X3_draftOf
set_option maxRecDepth 20000 in
theorem ggX3_sum_X3_wrongItem : GoodIn wsX3_sum wsX3_wrongItem := goodIn_r _ [22, 2, 9, 23, 24, 25, 6, 26, 8, 27, 28, 29, 30, 31, 32, 33, 34, 35, 64, 65, 66, 67, 68, 69, 70, 71, 72, 73, 74, 75, 76, 77, 78, 79, 80, 81, 82, 83, 84, 85, 86, 87, 88, 89] (by decide +kernel) (by decide +kernel)
set_option maxRecDepth 20000 in
theorem gX3_sum_X3_wrongItem : GoodIn wsX3_sum (wsV RX3 193 RX3 yX3_wrongItem wsX3_wrongItem) := goodIn_app (goodIn_of _ (by decide +kernel)) ggX3_sum_X3_wrongItem
set_option maxRecDepth 20000 in
theorem ggX3_sum_X3_askRule : GoodIn wsX3_sum wsX3_askRule := goodIn_r _ [39, 40, 41, 42, 43, 44, 45, 46, 47, 48, 49, 6, 50, 51, 69, 70, 71, 72, 73, 74, 75, 76, 77, 78, 79, 80, 81, 82, 83, 84, 85, 86, 87, 88, 89] (by decide +kernel) (by decide +kernel)
set_option maxRecDepth 20000 in
theorem gX3_sum_X3_askRule : GoodIn wsX3_sum (wsV RX3 109 RX3 yX3_askRule wsX3_askRule) := goodIn_app (goodIn_of _ (by decide +kernel)) ggX3_sum_X3_askRule
set_option maxRecDepth 20000 in
theorem ggX3_sum_X3_valueOf : GoodIn wsX3_sum wsX3_valueOf := goodIn_r _ [54, 55, 56, 6, 57, 58, 59, 60, 61, 62, 63, 51, 83, 84, 85, 86, 87, 88, 89] (by decide +kernel) (by decide +kernel)
set_option maxRecDepth 20000 in
theorem gX3_sum_X3_valueOf : GoodIn wsX3_sum (va_wsS RX3 113 yX3_valueOf wsX3_valueOf) := goodIn_app (goodIn_of _ (by decide +kernel)) ggX3_sum_X3_valueOf
theorem dX3_sum_0 : decode cX3_sum 0 = .ok (.aload_n 0, 1) := by decide +kernel
theorem dX3_sum_1 : decode cX3_sum 1 = .ok (.iload_n 1, 1) := by decide +kernel
theorem dX3_sum_2 : decode cX3_sum 2 = .ok (.invokevirtual 158, 3) := by decide +kernel
theorem dX3_sum_5 : decode cX3_sum 5 = .ok (.astore_n 2, 1) := by decide +kernel
theorem dX3_sum_6 : decode cX3_sum 6 = .ok (.aload_n 2, 1) := by decide +kernel
theorem dX3_sum_7 : decode cX3_sum 7 = .ok (.ifnonnull 7, 3) := by decide +kernel
theorem dX3_sum_10 : decode cX3_sum 10 = .ok (.ldc2_w 204, 3) := by decide +kernel
theorem dX3_sum_13 : decode cX3_sum 13 = .ok (.lreturn, 1) := by decide +kernel
theorem dX3_sum_14 : decode cX3_sum 14 = .ok (.lconst 0, 1) := by decide +kernel
theorem dX3_sum_15 : decode cX3_sum 15 = .ok (.lstore_n 3, 1) := by decide +kernel
theorem dX3_sum_16 : decode cX3_sum 16 = .ok (.iconst 0, 1) := by decide +kernel
theorem dX3_sum_17 : decode cX3_sum 17 = .ok (.istore 5, 2) := by decide +kernel
theorem dX3_sum_19 : decode cX3_sum 19 = .ok (.iload 5, 2) := by decide +kernel
theorem dX3_sum_21 : decode cX3_sum 21 = .ok (.aload_n 2, 1) := by decide +kernel
theorem dX3_sum_22 : decode cX3_sum 22 = .ok (.getfield 162, 3) := by decide +kernel
theorem dX3_sum_25 : decode cX3_sum 25 = .ok (.if_icmp .ge 101, 3) := by decide +kernel
theorem dX3_sum_28 : decode cX3_sum 28 = .ok (.aload_n 0, 1) := by decide +kernel
theorem dX3_sum_29 : decode cX3_sum 29 = .ok (.aload_n 2, 1) := by decide +kernel
theorem dX3_sum_30 : decode cX3_sum 30 = .ok (.iload 5, 2) := by decide +kernel
theorem dX3_sum_32 : decode cX3_sum 32 = .ok (.invokevirtual 188, 3) := by decide +kernel
theorem dX3_sum_35 : decode cX3_sum 35 = .ok (.aload_n 0, 1) := by decide +kernel
theorem dX3_sum_36 : decode cX3_sum 36 = .ok (.aload_n 2, 1) := by decide +kernel
theorem dX3_sum_37 : decode cX3_sum 37 = .ok (.invokevirtual 193, 3) := by decide +kernel
theorem dX3_sum_40 : decode cX3_sum 40 = .ok (.iconst (-1), 1) := by decide +kernel
theorem dX3_sum_41 : decode cX3_sum 41 = .ok (.if_icmp .ne 79, 3) := by decide +kernel
theorem dX3_sum_44 : decode cX3_sum 44 = .ok (.aload_n 0, 1) := by decide +kernel
theorem dX3_sum_45 : decode cX3_sum 45 = .ok (.aload_n 2, 1) := by decide +kernel
theorem dX3_sum_46 : decode cX3_sum 46 = .ok (.getfield 192, 3) := by decide +kernel
theorem dX3_sum_49 : decode cX3_sum 49 = .ok (.aload_n 0, 1) := by decide +kernel
theorem dX3_sum_50 : decode cX3_sum 50 = .ok (.getfield 63, 3) := by decide +kernel
theorem dX3_sum_53 : decode cX3_sum 53 = .ok (.iconst 0, 1) := by decide +kernel
theorem dX3_sum_54 : decode cX3_sum 54 = .ok (.iaload, 1) := by decide +kernel
theorem dX3_sum_55 : decode cX3_sum 55 = .ok (.aload_n 0, 1) := by decide +kernel
theorem dX3_sum_56 : decode cX3_sum 56 = .ok (.getfield 63, 3) := by decide +kernel
theorem dX3_sum_59 : decode cX3_sum 59 = .ok (.aload_n 2, 1) := by decide +kernel
theorem dX3_sum_60 : decode cX3_sum 60 = .ok (.getfield 206, 3) := by decide +kernel
theorem dX3_sum_63 : decode cX3_sum 63 = .ok (.iaload, 1) := by decide +kernel
theorem dX3_sum_64 : decode cX3_sum 64 = .ok (.i2l, 1) := by decide +kernel
theorem dX3_sum_65 : decode cX3_sum 65 = .ok (.invokevirtual 109, 3) := by decide +kernel
theorem dX3_sum_68 : decode cX3_sum 68 = .ok (.istore 6, 2) := by decide +kernel
theorem dX3_sum_70 : decode cX3_sum 70 = .ok (.iload 6, 2) := by decide +kernel
theorem dX3_sum_72 : decode cX3_sum 72 = .ok (.bipush (-8), 2) := by decide +kernel
theorem dX3_sum_74 : decode cX3_sum 74 = .ok (.if_icmp .eq 10, 3) := by decide +kernel
theorem dX3_sum_77 : decode cX3_sum 77 = .ok (.iload 6, 2) := by decide +kernel
theorem dX3_sum_79 : decode cX3_sum 79 = .ok (.bipush (-9), 2) := by decide +kernel
theorem dX3_sum_81 : decode cX3_sum 81 = .ok (.if_icmp .ne 7, 3) := by decide +kernel
theorem dX3_sum_84 : decode cX3_sum 84 = .ok (.iload 6, 2) := by decide +kernel
theorem dX3_sum_86 : decode cX3_sum 86 = .ok (.i2l, 1) := by decide +kernel
theorem dX3_sum_87 : decode cX3_sum 87 = .ok (.lreturn, 1) := by decide +kernel
theorem dX3_sum_88 : decode cX3_sum 88 = .ok (.iload 6, 2) := by decide +kernel
theorem dX3_sum_90 : decode cX3_sum 90 = .ok (.iconst 1, 1) := by decide +kernel
theorem dX3_sum_91 : decode cX3_sum 91 = .ok (.if_icmp .ne 29, 3) := by decide +kernel
theorem dX3_sum_94 : decode cX3_sum 94 = .ok (.lload_n 3, 1) := by decide +kernel
theorem dX3_sum_95 : decode cX3_sum 95 = .ok (.aload_n 2, 1) := by decide +kernel
theorem dX3_sum_96 : decode cX3_sum 96 = .ok (.getfield 192, 3) := by decide +kernel
theorem dX3_sum_99 : decode cX3_sum 99 = .ok (.aload_n 0, 1) := by decide +kernel
theorem dX3_sum_100 : decode cX3_sum 100 = .ok (.getfield 63, 3) := by decide +kernel
theorem dX3_sum_103 : decode cX3_sum 103 = .ok (.iconst 0, 1) := by decide +kernel
theorem dX3_sum_104 : decode cX3_sum 104 = .ok (.iaload, 1) := by decide +kernel
theorem dX3_sum_105 : decode cX3_sum 105 = .ok (.aload_n 0, 1) := by decide +kernel
theorem dX3_sum_106 : decode cX3_sum 106 = .ok (.getfield 63, 3) := by decide +kernel
theorem dX3_sum_109 : decode cX3_sum 109 = .ok (.aload_n 2, 1) := by decide +kernel
theorem dX3_sum_110 : decode cX3_sum 110 = .ok (.getfield 206, 3) := by decide +kernel
theorem dX3_sum_113 : decode cX3_sum 113 = .ok (.iaload, 1) := by decide +kernel
theorem dX3_sum_114 : decode cX3_sum 114 = .ok (.i2l, 1) := by decide +kernel
theorem dX3_sum_115 : decode cX3_sum 115 = .ok (.invokestatic 113, 3) := by decide +kernel
theorem dX3_sum_118 : decode cX3_sum 118 = .ok (.ladd, 1) := by decide +kernel
theorem dX3_sum_119 : decode cX3_sum 119 = .ok (.lstore_n 3, 1) := by decide +kernel
theorem dX3_sum_120 : decode cX3_sum 120 = .ok (.iinc 5 1, 3) := by decide +kernel
theorem dX3_sum_123 : decode cX3_sum 123 = .ok (.goto (-104), 3) := by decide +kernel
theorem dX3_sum_126 : decode cX3_sum 126 = .ok (.lload_n 3, 1) := by decide +kernel
theorem dX3_sum_127 : decode cX3_sum 127 = .ok (.lreturn, 1) := by decide +kernel
