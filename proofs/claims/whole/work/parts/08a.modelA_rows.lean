theorem dX4_isIn_0 : decode cX4_isIn 0 = .ok (.iload_n 0, 1) := by decide +kernel
theorem dX4_isIn_1 : decode cX4_isIn 1 = .ok (.iload_n 1, 1) := by decide +kernel
theorem dX4_isIn_2 : decode cX4_isIn 2 = .ok (.if_icmp .lt 12, 3) := by decide +kernel
theorem dX4_isIn_5 : decode cX4_isIn 5 = .ok (.iload_n 0, 1) := by decide +kernel
theorem dX4_isIn_6 : decode cX4_isIn 6 = .ok (.iload_n 2, 1) := by decide +kernel
theorem dX4_isIn_7 : decode cX4_isIn 7 = .ok (.if_icmp .gt 7, 3) := by decide +kernel
theorem dX4_isIn_10 : decode cX4_isIn 10 = .ok (.iconst 1, 1) := by decide +kernel
theorem dX4_isIn_11 : decode cX4_isIn 11 = .ok (.goto 4, 3) := by decide +kernel
theorem dX4_isIn_14 : decode cX4_isIn 14 = .ok (.iconst 0, 1) := by decide +kernel
theorem dX4_isIn_15 : decode cX4_isIn 15 = .ok (.ireturn, 1) := by decide +kernel
set_option maxRecDepth 20000 in
theorem ggX4_isKind_X4_isIn : GoodIn wsX4_isKind wsX4_isIn := goodIn_r _ [4] (by decide +kernel) (by decide +kernel)
set_option maxRecDepth 20000 in
theorem gX4_isKind_X4_isIn : GoodIn wsX4_isKind (va_wsS RX4 79 yX4_isIn wsX4_isIn) := goodIn_app (goodIn_of _ (by decide +kernel)) ggX4_isKind_X4_isIn
theorem dX4_isKind_0 : decode cX4_isKind 0 = .ok (.iload_n 0, 1) := by decide +kernel
theorem dX4_isKind_1 : decode cX4_isKind 1 = .ok (.iconst 0, 1) := by decide +kernel
theorem dX4_isKind_2 : decode cX4_isKind 2 = .ok (.iconst 2, 1) := by decide +kernel
theorem dX4_isKind_3 : decode cX4_isKind 3 = .ok (.invokestatic 79, 3) := by decide +kernel
theorem dX4_isKind_6 : decode cX4_isKind 6 = .ok (.ireturn, 1) := by decide +kernel
set_option maxRecDepth 20000 in
theorem ggX4_isSet_X4_isIn : GoodIn wsX4_isSet wsX4_isIn := goodIn_r _ [4] (by decide +kernel) (by decide +kernel)
set_option maxRecDepth 20000 in
theorem gX4_isSet_X4_isIn : GoodIn wsX4_isSet (va_wsS RX4 79 yX4_isIn wsX4_isIn) := goodIn_app (goodIn_of _ (by decide +kernel)) ggX4_isSet_X4_isIn
theorem dX4_isSet_0 : decode cX4_isSet 0 = .ok (.iload_n 0, 1) := by decide +kernel
theorem dX4_isSet_1 : decode cX4_isSet 1 = .ok (.iconst 0, 1) := by decide +kernel
theorem dX4_isSet_2 : decode cX4_isSet 2 = .ok (.bipush 9, 2) := by decide +kernel
theorem dX4_isSet_4 : decode cX4_isSet 4 = .ok (.invokestatic 79, 3) := by decide +kernel
theorem dX4_isSet_7 : decode cX4_isSet 7 = .ok (.ireturn, 1) := by decide +kernel
theorem dX4_isTable_0 : decode cX4_isTable 0 = .ok (.iload_n 0, 1) := by decide +kernel
theorem dX4_isTable_1 : decode cX4_isTable 1 = .ok (.ifCond .eq 8, 3) := by decide +kernel
theorem dX4_isTable_4 : decode cX4_isTable 4 = .ok (.iload_n 0, 1) := by decide +kernel
theorem dX4_isTable_5 : decode cX4_isTable 5 = .ok (.iconst 1, 1) := by decide +kernel
theorem dX4_isTable_6 : decode cX4_isTable 6 = .ok (.if_icmp .ne 7, 3) := by decide +kernel
theorem dX4_isTable_9 : decode cX4_isTable 9 = .ok (.iconst 1, 1) := by decide +kernel
theorem dX4_isTable_10 : decode cX4_isTable 10 = .ok (.goto 4, 3) := by decide +kernel
theorem dX4_isTable_13 : decode cX4_isTable 13 = .ok (.iconst 0, 1) := by decide +kernel
theorem dX4_isTable_14 : decode cX4_isTable 14 = .ok (.ireturn, 1) := by decide +kernel
set_option maxRecDepth 20000 in
theorem ggX4_isCode_X4_isIn : GoodIn wsX4_isCode wsX4_isIn := goodIn_r _ [5] (by decide +kernel) (by decide +kernel)
set_option maxRecDepth 20000 in
theorem gX4_isCode_X4_isIn : GoodIn wsX4_isCode (va_wsS RX4 79 yX4_isIn wsX4_isIn) := goodIn_app (goodIn_of _ (by decide +kernel)) ggX4_isCode_X4_isIn
theorem dX4_isCode_0 : decode cX4_isCode 0 = .ok (.iload_n 2, 1) := by decide +kernel
theorem dX4_isCode_1 : decode cX4_isCode 1 = .ok (.iconst 0, 1) := by decide +kernel
theorem dX4_isCode_2 : decode cX4_isCode 2 = .ok (.aload_n 0, 1) := by decide +kernel
theorem dX4_isCode_3 : decode cX4_isCode 3 = .ok (.getfield 7, 3) := by decide +kernel
theorem dX4_isCode_6 : decode cX4_isCode 6 = .ok (.iload_n 1, 1) := by decide +kernel
theorem dX4_isCode_7 : decode cX4_isCode 7 = .ok (.iaload, 1) := by decide +kernel
theorem dX4_isCode_8 : decode cX4_isCode 8 = .ok (.iconst 1, 1) := by decide +kernel
theorem dX4_isCode_9 : decode cX4_isCode 9 = .ok (.isub, 1) := by decide +kernel
theorem dX4_isCode_10 : decode cX4_isCode 10 = .ok (.invokestatic 79, 3) := by decide +kernel
theorem dX4_isCode_13 : decode cX4_isCode 13 = .ok (.ireturn, 1) := by decide +kernel
set_option maxRecDepth 20000 in
theorem ggX4_constant_X4_isCode : GoodIn wsX4_constant wsX4_isCode := goodIn_r _ [6, 7, 8, 9, 5, 10, 11, 12, 13, 14, 15, 16, 17, 18, 19, 20, 21, 22, 23, 24, 25, 26, 27, 28, 29] (by decide +kernel) (by decide +kernel)
set_option maxRecDepth 20000 in
theorem gX4_constant_X4_isCode : GoodIn wsX4_constant (wsV RX4 83 RX4 yX4_isCode wsX4_isCode) := goodIn_app (goodIn_of _ (by decide +kernel)) ggX4_constant_X4_isCode
theorem dX4_constant_0 : decode cX4_constant 0 = .ok (.aload_n 0, 1) := by decide +kernel
theorem dX4_constant_1 : decode cX4_constant 1 = .ok (.iload_n 1, 1) := by decide +kernel
theorem dX4_constant_2 : decode cX4_constant 2 = .ok (.iload_n 2, 1) := by decide +kernel
theorem dX4_constant_3 : decode cX4_constant 3 = .ok (.invokevirtual 83, 3) := by decide +kernel
theorem dX4_constant_6 : decode cX4_constant 6 = .ok (.ifCond .eq 17, 3) := by decide +kernel
theorem dX4_constant_9 : decode cX4_constant 9 = .ok (.aload_n 0, 1) := by decide +kernel
theorem dX4_constant_10 : decode cX4_constant 10 = .ok (.getfield 44, 3) := by decide +kernel
theorem dX4_constant_13 : decode cX4_constant 13 = .ok (.bipush 26, 2) := by decide +kernel
theorem dX4_constant_15 : decode cX4_constant 15 = .ok (.iload_n 1, 1) := by decide +kernel
theorem dX4_constant_16 : decode cX4_constant 16 = .ok (.imul, 1) := by decide +kernel
theorem dX4_constant_17 : decode cX4_constant 17 = .ok (.iload_n 2, 1) := by decide +kernel
theorem dX4_constant_18 : decode cX4_constant 18 = .ok (.iadd, 1) := by decide +kernel
theorem dX4_constant_19 : decode cX4_constant 19 = .ok (.iaload, 1) := by decide +kernel
theorem dX4_constant_20 : decode cX4_constant 20 = .ok (.goto 4, 3) := by decide +kernel
theorem dX4_constant_23 : decode cX4_constant 23 = .ok (.iconst (-1), 1) := by decide +kernel
theorem dX4_constant_24 : decode cX4_constant 24 = .ok (.ireturn, 1) := by decide +kernel
theorem dX4_codeNow_0 : decode cX4_codeNow 0 = .ok (.iload_n 2, 1) := by decide +kernel
theorem dX4_codeNow_1 : decode cX4_codeNow 1 = .ok (.iconst (-1), 1) := by decide +kernel
theorem dX4_codeNow_2 : decode cX4_codeNow 2 = .ok (.if_icmp .ne 7, 3) := by decide +kernel
theorem dX4_codeNow_5 : decode cX4_codeNow 5 = .ok (.iconst (-1), 1) := by decide +kernel
theorem dX4_codeNow_6 : decode cX4_codeNow 6 = .ok (.goto 14, 3) := by decide +kernel
theorem dX4_codeNow_9 : decode cX4_codeNow 9 = .ok (.aload_n 0, 1) := by decide +kernel
theorem dX4_codeNow_10 : decode cX4_codeNow 10 = .ok (.getfield 41, 3) := by decide +kernel
theorem dX4_codeNow_13 : decode cX4_codeNow 13 = .ok (.bipush 26, 2) := by decide +kernel
theorem dX4_codeNow_15 : decode cX4_codeNow 15 = .ok (.iload_n 1, 1) := by decide +kernel
theorem dX4_codeNow_16 : decode cX4_codeNow 16 = .ok (.imul, 1) := by decide +kernel
theorem dX4_codeNow_17 : decode cX4_codeNow 17 = .ok (.iload_n 2, 1) := by decide +kernel
theorem dX4_codeNow_18 : decode cX4_codeNow 18 = .ok (.iadd, 1) := by decide +kernel
theorem dX4_codeNow_19 : decode cX4_codeNow 19 = .ok (.iaload, 1) := by decide +kernel
theorem dX4_codeNow_20 : decode cX4_codeNow 20 = .ok (.ireturn, 1) := by decide +kernel
theorem dX4_nameOf_0 : decode cX4_nameOf 0 = .ok (.iload_n 1, 1) := by decide +kernel
theorem dX4_nameOf_1 : decode cX4_nameOf 1 = .ok (.iconst 2, 1) := by decide +kernel
theorem dX4_nameOf_2 : decode cX4_nameOf 2 = .ok (.if_icmp .ne 12, 3) := by decide +kernel
theorem dX4_nameOf_5 : decode cX4_nameOf 5 = .ok (.ldc2_w 87, 3) := by decide +kernel
theorem dX4_nameOf_8 : decode cX4_nameOf 8 = .ok (.iload_n 2, 1) := by decide +kernel
theorem dX4_nameOf_9 : decode cX4_nameOf 9 = .ok (.i2l, 1) := by decide +kernel
theorem dX4_nameOf_10 : decode cX4_nameOf 10 = .ok (.ladd, 1) := by decide +kernel
theorem dX4_nameOf_11 : decode cX4_nameOf 11 = .ok (.goto 13, 3) := by decide +kernel
theorem dX4_nameOf_14 : decode cX4_nameOf 14 = .ok (.aload_n 0, 1) := by decide +kernel
theorem dX4_nameOf_15 : decode cX4_nameOf 15 = .ok (.getfield 37, 3) := by decide +kernel
theorem dX4_nameOf_18 : decode cX4_nameOf 18 = .ok (.iconst 5, 1) := by decide +kernel
theorem dX4_nameOf_19 : decode cX4_nameOf 19 = .ok (.iload_n 1, 1) := by decide +kernel
theorem dX4_nameOf_20 : decode cX4_nameOf 20 = .ok (.imul, 1) := by decide +kernel
theorem dX4_nameOf_21 : decode cX4_nameOf 21 = .ok (.iload_n 2, 1) := by decide +kernel
theorem dX4_nameOf_22 : decode cX4_nameOf 22 = .ok (.iadd, 1) := by decide +kernel
theorem dX4_nameOf_23 : decode cX4_nameOf 23 = .ok (.laload, 1) := by decide +kernel
theorem dX4_nameOf_24 : decode cX4_nameOf 24 = .ok (.lreturn, 1) := by decide +kernel
theorem dX4_lost_0 : decode cX4_lost 0 = .ok (.aload_n 0, 1) := by decide +kernel
theorem dX4_lost_1 : decode cX4_lost 1 = .ok (.dup, 1) := by decide +kernel
theorem dX4_lost_2 : decode cX4_lost 2 = .ok (.getfield 117, 3) := by decide +kernel
theorem dX4_lost_5 : decode cX4_lost 5 = .ok (.iconst 1, 1) := by decide +kernel
theorem dX4_lost_6 : decode cX4_lost 6 = .ok (.iadd, 1) := by decide +kernel
theorem dX4_lost_7 : decode cX4_lost 7 = .ok (.putfield 117, 3) := by decide +kernel
theorem dX4_lost_10 : decode cX4_lost 10 = .ok (.iload_n 1, 1) := by decide +kernel
theorem dX4_lost_11 : decode cX4_lost 11 = .ok (.ireturn, 1) := by decide +kernel
theorem dX4_begin_0 : decode cX4_begin 0 = .ok (.aload_n 0, 1) := by decide +kernel
theorem dX4_begin_1 : decode cX4_begin 1 = .ok (.getfield 47, 3) := by decide +kernel
theorem dX4_begin_4 : decode cX4_begin 4 = .ok (.iload_n 1, 1) := by decide +kernel
theorem dX4_begin_5 : decode cX4_begin 5 = .ok (.iaload, 1) := by decide +kernel
theorem dX4_begin_6 : decode cX4_begin 6 = .ok (.ifCond .ne 39, 3) := by decide +kernel
theorem dX4_begin_9 : decode cX4_begin 9 = .ok (.aload_n 0, 1) := by decide +kernel
theorem dX4_begin_10 : decode cX4_begin 10 = .ok (.getfield 47, 3) := by decide +kernel
theorem dX4_begin_13 : decode cX4_begin 13 = .ok (.iload_n 1, 1) := by decide +kernel
theorem dX4_begin_14 : decode cX4_begin 14 = .ok (.aload_n 0, 1) := by decide +kernel
theorem dX4_begin_15 : decode cX4_begin 15 = .ok (.getfield 50, 3) := by decide +kernel
theorem dX4_begin_18 : decode cX4_begin 18 = .ok (.iload_n 1, 1) := by decide +kernel
theorem dX4_begin_19 : decode cX4_begin 19 = .ok (.baload, 1) := by decide +kernel
theorem dX4_begin_20 : decode cX4_begin 20 = .ok (.ifCond .eq 7, 3) := by decide +kernel
theorem dX4_begin_23 : decode cX4_begin 23 = .ok (.iconst 2, 1) := by decide +kernel
theorem dX4_begin_24 : decode cX4_begin 24 = .ok (.goto 4, 3) := by decide +kernel
theorem dX4_begin_27 : decode cX4_begin 27 = .ok (.iconst 1, 1) := by decide +kernel
theorem dX4_begin_28 : decode cX4_begin 28 = .ok (.iastore, 1) := by decide +kernel
theorem dX4_begin_29 : decode cX4_begin 29 = .ok (.aload_n 0, 1) := by decide +kernel
theorem dX4_begin_30 : decode cX4_begin 30 = .ok (.getfield 50, 3) := by decide +kernel
theorem dX4_begin_33 : decode cX4_begin 33 = .ok (.iload_n 1, 1) := by decide +kernel
theorem dX4_begin_34 : decode cX4_begin 34 = .ok (.baload, 1) := by decide +kernel
theorem dX4_begin_35 : decode cX4_begin 35 = .ok (.ifCond .eq 8, 3) := by decide +kernel
theorem dX4_begin_38 : decode cX4_begin 38 = .ok (.bipush (-8), 2) := by decide +kernel
theorem dX4_begin_40 : decode cX4_begin 40 = .ok (.goto 4, 3) := by decide +kernel
theorem dX4_begin_43 : decode cX4_begin 43 = .ok (.iconst 0, 1) := by decide +kernel
theorem dX4_begin_44 : decode cX4_begin 44 = .ok (.ireturn, 1) := by decide +kernel
theorem dX4_begin_45 : decode cX4_begin 45 = .ok (.aload_n 0, 1) := by decide +kernel
theorem dX4_begin_46 : decode cX4_begin 46 = .ok (.getfield 47, 3) := by decide +kernel
theorem dX4_begin_49 : decode cX4_begin 49 = .ok (.iload_n 1, 1) := by decide +kernel
theorem dX4_begin_50 : decode cX4_begin 50 = .ok (.iaload, 1) := by decide +kernel
theorem dX4_begin_51 : decode cX4_begin 51 = .ok (.iconst 2, 1) := by decide +kernel
theorem dX4_begin_52 : decode cX4_begin 52 = .ok (.if_icmp .ne 8, 3) := by decide +kernel
theorem dX4_begin_55 : decode cX4_begin 55 = .ok (.bipush (-9), 2) := by decide +kernel
theorem dX4_begin_57 : decode cX4_begin 57 = .ok (.goto 4, 3) := by decide +kernel
theorem dX4_begin_60 : decode cX4_begin 60 = .ok (.iconst 0, 1) := by decide +kernel
theorem dX4_begin_61 : decode cX4_begin 61 = .ok (.ireturn, 1) := by decide +kernel
set_option maxRecDepth 20000 in
theorem ggX4_works_X4_lost : GoodIn wsX4_works wsX4_lost := goodIn_r _ [10, 11, 12, 13, 14, 15, 16, 17, 18, 19, 20, 21, 22, 23, 24, 25, 26, 27, 28, 29, 30] (by decide +kernel) (by decide +kernel)
set_option maxRecDepth 20000 in
theorem gX4_works_X4_lost : GoodIn wsX4_works (wsV RX4 109 RX4 yX4_lost wsX4_lost) := goodIn_app (goodIn_of _ (by decide +kernel)) ggX4_works_X4_lost
theorem dX4_works_0 : decode cX4_works 0 = .ok (.iload_n 1, 1) := by decide +kernel
theorem dX4_works_1 : decode cX4_works 1 = .ok (.iconst 2, 1) := by decide +kernel
theorem dX4_works_2 : decode cX4_works 2 = .ok (.if_icmp .ne 8, 3) := by decide +kernel
theorem dX4_works_5 : decode cX4_works 5 = .ok (.bipush 20, 2) := by decide +kernel
theorem dX4_works_7 : decode cX4_works 7 = .ok (.goto 9, 3) := by decide +kernel
theorem dX4_works_10 : decode cX4_works 10 = .ok (.bipush 10, 2) := by decide +kernel
theorem dX4_works_12 : decode cX4_works 12 = .ok (.iload_n 1, 1) := by decide +kernel
theorem dX4_works_13 : decode cX4_works 13 = .ok (.imul, 1) := by decide +kernel
theorem dX4_works_14 : decode cX4_works 14 = .ok (.iload_n 2, 1) := by decide +kernel
theorem dX4_works_15 : decode cX4_works 15 = .ok (.iadd, 1) := by decide +kernel
theorem dX4_works_16 : decode cX4_works 16 = .ok (.istore 5, 2) := by decide +kernel
theorem dX4_works_18 : decode cX4_works 18 = .ok (.iload 5, 2) := by decide +kernel
theorem dX4_works_20 : decode cX4_works 20 = .ok (.tableswitch 265 0 16 #[84, 92, 104, 116, 125, 265, 265, 265, 265, 265, 135, 145, 155, 167, 167, 207, 244], 84) := by decide +kernel
theorem dX4_works_104 : decode cX4_works 104 = .ok (.aload_n 0, 1) := by decide +kernel
theorem dX4_works_105 : decode cX4_works 105 = .ok (.lload_n 3, 1) := by decide +kernel
theorem dX4_works_106 : decode cX4_works 106 = .ok (.putfield 101, 3) := by decide +kernel
theorem dX4_works_109 : decode cX4_works 109 = .ok (.goto 184, 3) := by decide +kernel
theorem dX4_works_112 : decode cX4_works 112 = .ok (.aload_n 0, 1) := by decide +kernel
theorem dX4_works_113 : decode cX4_works 113 = .ok (.ldc2_w 105, 3) := by decide +kernel
theorem dX4_works_116 : decode cX4_works 116 = .ok (.lload_n 3, 1) := by decide +kernel
theorem dX4_works_117 : decode cX4_works 117 = .ok (.lmul, 1) := by decide +kernel
theorem dX4_works_118 : decode cX4_works 118 = .ok (.putfield 101, 3) := by decide +kernel
theorem dX4_works_121 : decode cX4_works 121 = .ok (.goto 172, 3) := by decide +kernel
theorem dX4_works_124 : decode cX4_works 124 = .ok (.aload_n 0, 1) := by decide +kernel
theorem dX4_works_125 : decode cX4_works 125 = .ok (.lload_n 3, 1) := by decide +kernel
theorem dX4_works_126 : decode cX4_works 126 = .ok (.ldc2_w 107, 3) := by decide +kernel
theorem dX4_works_129 : decode cX4_works 129 = .ok (.ladd, 1) := by decide +kernel
theorem dX4_works_130 : decode cX4_works 130 = .ok (.putfield 101, 3) := by decide +kernel
theorem dX4_works_133 : decode cX4_works 133 = .ok (.goto 160, 3) := by decide +kernel
theorem dX4_works_136 : decode cX4_works 136 = .ok (.aload_n 0, 1) := by decide +kernel
theorem dX4_works_137 : decode cX4_works 137 = .ok (.lload_n 3, 1) := by decide +kernel
theorem dX4_works_138 : decode cX4_works 138 = .ok (.lneg, 1) := by decide +kernel
theorem dX4_works_139 : decode cX4_works 139 = .ok (.putfield 101, 3) := by decide +kernel
theorem dX4_works_142 : decode cX4_works 142 = .ok (.goto 151, 3) := by decide +kernel
theorem dX4_works_145 : decode cX4_works 145 = .ok (.aload_n 0, 1) := by decide +kernel
theorem dX4_works_146 : decode cX4_works 146 = .ok (.lload_n 3, 1) := by decide +kernel
theorem dX4_works_147 : decode cX4_works 147 = .ok (.lload_n 3, 1) := by decide +kernel
theorem dX4_works_148 : decode cX4_works 148 = .ok (.lmul, 1) := by decide +kernel
theorem dX4_works_149 : decode cX4_works 149 = .ok (.putfield 101, 3) := by decide +kernel
theorem dX4_works_152 : decode cX4_works 152 = .ok (.goto 141, 3) := by decide +kernel
theorem dX4_works_155 : decode cX4_works 155 = .ok (.aload_n 0, 1) := by decide +kernel
theorem dX4_works_156 : decode cX4_works 156 = .ok (.lload_n 3, 1) := by decide +kernel
theorem dX4_works_157 : decode cX4_works 157 = .ok (.lconst 1, 1) := by decide +kernel
theorem dX4_works_158 : decode cX4_works 158 = .ok (.ladd, 1) := by decide +kernel
theorem dX4_works_159 : decode cX4_works 159 = .ok (.putfield 101, 3) := by decide +kernel
theorem dX4_works_162 : decode cX4_works 162 = .ok (.goto 131, 3) := by decide +kernel
theorem dX4_works_165 : decode cX4_works 165 = .ok (.aload_n 0, 1) := by decide +kernel
theorem dX4_works_166 : decode cX4_works 166 = .ok (.lload_n 3, 1) := by decide +kernel
theorem dX4_works_167 : decode cX4_works 167 = .ok (.lconst 1, 1) := by decide +kernel
theorem dX4_works_168 : decode cX4_works 168 = .ok (.lsub, 1) := by decide +kernel
theorem dX4_works_169 : decode cX4_works 169 = .ok (.putfield 101, 3) := by decide +kernel
theorem dX4_works_172 : decode cX4_works 172 = .ok (.goto 121, 3) := by decide +kernel
theorem dX4_works_175 : decode cX4_works 175 = .ok (.aload_n 0, 1) := by decide +kernel
theorem dX4_works_176 : decode cX4_works 176 = .ok (.lload_n 3, 1) := by decide +kernel
theorem dX4_works_177 : decode cX4_works 177 = .ok (.ldc2_w 105, 3) := by decide +kernel
theorem dX4_works_180 : decode cX4_works 180 = .ok (.ldiv, 1) := by decide +kernel
theorem dX4_works_181 : decode cX4_works 181 = .ok (.putfield 101, 3) := by decide +kernel
theorem dX4_works_184 : decode cX4_works 184 = .ok (.goto 109, 3) := by decide +kernel
theorem dX4_works_187 : decode cX4_works 187 = .ok (.lload_n 3, 1) := by decide +kernel
theorem dX4_works_188 : decode cX4_works 188 = .ok (.lconst 0, 1) := by decide +kernel
theorem dX4_works_189 : decode cX4_works 189 = .ok (.lcmp, 1) := by decide +kernel
theorem dX4_works_190 : decode cX4_works 190 = .ok (.ifCond .ne 10, 3) := by decide +kernel
theorem dX4_works_193 : decode cX4_works 193 = .ok (.aload_n 0, 1) := by decide +kernel
theorem dX4_works_194 : decode cX4_works 194 = .ok (.bipush (-5), 2) := by decide +kernel
theorem dX4_works_196 : decode cX4_works 196 = .ok (.invokevirtual 109, 3) := by decide +kernel
theorem dX4_works_199 : decode cX4_works 199 = .ok (.ireturn, 1) := by decide +kernel
theorem dX4_works_200 : decode cX4_works 200 = .ok (.aload_n 0, 1) := by decide +kernel
theorem dX4_works_201 : decode cX4_works 201 = .ok (.iload 5, 2) := by decide +kernel
theorem dX4_works_203 : decode cX4_works 203 = .ok (.bipush 13, 2) := by decide +kernel
theorem dX4_works_205 : decode cX4_works 205 = .ok (.if_icmp .ne 11, 3) := by decide +kernel
theorem dX4_works_208 : decode cX4_works 208 = .ok (.ldc2_w 113, 3) := by decide +kernel
theorem dX4_works_211 : decode cX4_works 211 = .ok (.lload_n 3, 1) := by decide +kernel
theorem dX4_works_212 : decode cX4_works 212 = .ok (.ldiv, 1) := by decide +kernel
theorem dX4_works_213 : decode cX4_works 213 = .ok (.goto 8, 3) := by decide +kernel
theorem dX4_works_216 : decode cX4_works 216 = .ok (.ldc2_w 113, 3) := by decide +kernel
theorem dX4_works_219 : decode cX4_works 219 = .ok (.lload_n 3, 1) := by decide +kernel
theorem dX4_works_220 : decode cX4_works 220 = .ok (.lrem, 1) := by decide +kernel
theorem dX4_works_221 : decode cX4_works 221 = .ok (.putfield 101, 3) := by decide +kernel
theorem dX4_works_224 : decode cX4_works 224 = .ok (.goto 69, 3) := by decide +kernel
theorem dX4_works_227 : decode cX4_works 227 = .ok (.lload_n 3, 1) := by decide +kernel
theorem dX4_works_228 : decode cX4_works 228 = .ok (.lconst 0, 1) := by decide +kernel
theorem dX4_works_229 : decode cX4_works 229 = .ok (.lcmp, 1) := by decide +kernel
theorem dX4_works_230 : decode cX4_works 230 = .ok (.ifCond .lt 11, 3) := by decide +kernel
theorem dX4_works_233 : decode cX4_works 233 = .ok (.lload_n 3, 1) := by decide +kernel
theorem dX4_works_234 : decode cX4_works 234 = .ok (.ldc2_w 105, 3) := by decide +kernel
theorem dX4_works_237 : decode cX4_works 237 = .ok (.lcmp, 1) := by decide +kernel
theorem dX4_works_238 : decode cX4_works 238 = .ok (.ifCond .le 10, 3) := by decide +kernel
theorem dX4_works_241 : decode cX4_works 241 = .ok (.aload_n 0, 1) := by decide +kernel
theorem dX4_works_242 : decode cX4_works 242 = .ok (.bipush (-6), 2) := by decide +kernel
theorem dX4_works_244 : decode cX4_works 244 = .ok (.invokevirtual 109, 3) := by decide +kernel
theorem dX4_works_247 : decode cX4_works 247 = .ok (.ireturn, 1) := by decide +kernel
theorem dX4_works_248 : decode cX4_works 248 = .ok (.aload_n 0, 1) := by decide +kernel
theorem dX4_works_249 : decode cX4_works 249 = .ok (.ldc2_w 115, 3) := by decide +kernel
theorem dX4_works_252 : decode cX4_works 252 = .ok (.ldc2_w 105, 3) := by decide +kernel
theorem dX4_works_255 : decode cX4_works 255 = .ok (.lload_n 3, 1) := by decide +kernel
theorem dX4_works_256 : decode cX4_works 256 = .ok (.lmul, 1) := by decide +kernel
theorem dX4_works_257 : decode cX4_works 257 = .ok (.ladd, 1) := by decide +kernel
theorem dX4_works_258 : decode cX4_works 258 = .ok (.putfield 101, 3) := by decide +kernel
theorem dX4_works_261 : decode cX4_works 261 = .ok (.goto 32, 3) := by decide +kernel
theorem dX4_works_264 : decode cX4_works 264 = .ok (.lload_n 3, 1) := by decide +kernel
theorem dX4_works_265 : decode cX4_works 265 = .ok (.lconst 0, 1) := by decide +kernel
theorem dX4_works_266 : decode cX4_works 266 = .ok (.lcmp, 1) := by decide +kernel
theorem dX4_works_267 : decode cX4_works 267 = .ok (.ifCond .ge 10, 3) := by decide +kernel
theorem dX4_works_270 : decode cX4_works 270 = .ok (.aload_n 0, 1) := by decide +kernel
theorem dX4_works_271 : decode cX4_works 271 = .ok (.bipush (-7), 2) := by decide +kernel
theorem dX4_works_273 : decode cX4_works 273 = .ok (.invokevirtual 109, 3) := by decide +kernel
theorem dX4_works_276 : decode cX4_works 276 = .ok (.ireturn, 1) := by decide +kernel
theorem dX4_works_277 : decode cX4_works 277 = .ok (.aload_n 0, 1) := by decide +kernel
theorem dX4_works_278 : decode cX4_works 278 = .ok (.lload_n 3, 1) := by decide +kernel
theorem dX4_works_279 : decode cX4_works 279 = .ok (.putfield 101, 3) := by decide +kernel
theorem dX4_works_282 : decode cX4_works 282 = .ok (.goto 11, 3) := by decide +kernel
theorem dX4_works_285 : decode cX4_works 285 = .ok (.aload_n 0, 1) := by decide +kernel
theorem dX4_works_286 : decode cX4_works 286 = .ok (.lload_n 3, 1) := by decide +kernel
theorem dX4_works_287 : decode cX4_works 287 = .ok (.iload_n 2, 1) := by decide +kernel
theorem dX4_works_288 : decode cX4_works 288 = .ok (.i2l, 1) := by decide +kernel
theorem dX4_works_289 : decode cX4_works 289 = .ok (.lxor, 1) := by decide +kernel
theorem dX4_works_290 : decode cX4_works 290 = .ok (.putfield 101, 3) := by decide +kernel
theorem dX4_works_293 : decode cX4_works 293 = .ok (.iconst 1, 1) := by decide +kernel
theorem dX4_works_294 : decode cX4_works 294 = .ok (.ireturn, 1) := by decide +kernel
theorem dX4_size_0 : decode cX4_size 0 = .ok (.iconst 0, 1) := by decide +kernel
theorem dX4_size_1 : decode cX4_size 1 = .ok (.istore_n 1, 1) := by decide +kernel
theorem dX4_size_2 : decode cX4_size 2 = .ok (.iconst 0, 1) := by decide +kernel
theorem dX4_size_3 : decode cX4_size 3 = .ok (.istore_n 2, 1) := by decide +kernel
theorem dX4_size_4 : decode cX4_size 4 = .ok (.iload_n 2, 1) := by decide +kernel
theorem dX4_size_5 : decode cX4_size 5 = .ok (.bipush 26, 2) := by decide +kernel
theorem dX4_size_7 : decode cX4_size 7 = .ok (.if_icmp .ge 17, 3) := by decide +kernel
theorem dX4_size_10 : decode cX4_size 10 = .ok (.iload_n 1, 1) := by decide +kernel
theorem dX4_size_11 : decode cX4_size 11 = .ok (.iload_n 0, 1) := by decide +kernel
theorem dX4_size_12 : decode cX4_size 12 = .ok (.iload_n 2, 1) := by decide +kernel
theorem dX4_size_13 : decode cX4_size 13 = .ok (.ishr, 1) := by decide +kernel
theorem dX4_size_14 : decode cX4_size 14 = .ok (.iconst 1, 1) := by decide +kernel
theorem dX4_size_15 : decode cX4_size 15 = .ok (.iand, 1) := by decide +kernel
theorem dX4_size_16 : decode cX4_size 16 = .ok (.iadd, 1) := by decide +kernel
theorem dX4_size_17 : decode cX4_size 17 = .ok (.istore_n 1, 1) := by decide +kernel
theorem dX4_size_18 : decode cX4_size 18 = .ok (.iinc 2 1, 3) := by decide +kernel
theorem dX4_size_21 : decode cX4_size 21 = .ok (.goto (-17), 3) := by decide +kernel
theorem dX4_size_24 : decode cX4_size 24 = .ok (.iload_n 1, 1) := by decide +kernel
theorem dX4_size_25 : decode cX4_size 25 = .ok (.ireturn, 1) := by decide +kernel
theorem dX4_items_0 : decode cX4_items 0 = .ok (.iconst 3, 1) := by decide +kernel
theorem dX4_items_1 : decode cX4_items 1 = .ok (.iload_n 0, 1) := by decide +kernel
theorem dX4_items_2 : decode cX4_items 2 = .ok (.iadd, 1) := by decide +kernel
theorem dX4_items_3 : decode cX4_items 3 = .ok (.ireturn, 1) := by decide +kernel
theorem dX4_kindOf_0 : decode cX4_kindOf 0 = .ok (.iload_n 1, 1) := by decide +kernel
theorem dX4_kindOf_1 : decode cX4_kindOf 1 = .ok (.ifCond .ne 7, 3) := by decide +kernel
theorem dX4_kindOf_4 : decode cX4_kindOf 4 = .ok (.iload_n 0, 1) := by decide +kernel
theorem dX4_kindOf_5 : decode cX4_kindOf 5 = .ok (.goto 18, 3) := by decide +kernel
theorem dX4_kindOf_8 : decode cX4_kindOf 8 = .ok (.iload_n 0, 1) := by decide +kernel
theorem dX4_kindOf_9 : decode cX4_kindOf 9 = .ok (.ifCond .ne 12, 3) := by decide +kernel
theorem dX4_kindOf_12 : decode cX4_kindOf 12 = .ok (.iload_n 1, 1) := by decide +kernel
theorem dX4_kindOf_13 : decode cX4_kindOf 13 = .ok (.iconst 2, 1) := by decide +kernel
theorem dX4_kindOf_14 : decode cX4_kindOf 14 = .ok (.if_icmp .ne 7, 3) := by decide +kernel
theorem dX4_kindOf_17 : decode cX4_kindOf 17 = .ok (.iconst 2, 1) := by decide +kernel
theorem dX4_kindOf_18 : decode cX4_kindOf 18 = .ok (.goto 5, 3) := by decide +kernel
theorem dX4_kindOf_21 : decode cX4_kindOf 21 = .ok (.bipush (-4), 2) := by decide +kernel
theorem dX4_kindOf_23 : decode cX4_kindOf 23 = .ok (.ireturn, 1) := by decide +kernel
