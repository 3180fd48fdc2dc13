set_option maxRecDepth 20000 in
theorem ggX4_record_X4_isTable : GoodIn wsX4_record wsX4_isTable := goodIn_r _ [8] (by decide +kernel) (by decide +kernel)
set_option maxRecDepth 20000 in
theorem gX4_record_X4_isTable : GoodIn wsX4_record (va_wsS RX4 137 yX4_isTable wsX4_isTable) := goodIn_app (goodIn_of _ (by decide +kernel)) ggX4_record_X4_isTable
set_option maxRecDepth 20000 in
theorem ggX4_record_X4_constant : GoodIn wsX4_record wsX4_constant := goodIn_r _ [12, 13, 14, 15, 16, 7, 17, 18, 19, 20, 21, 33, 34, 35, 36, 37, 38, 39, 40, 41, 42, 43, 44, 45, 46, 47, 48, 49, 50, 51] (by decide +kernel) (by decide +kernel)
set_option maxRecDepth 20000 in
theorem gX4_record_X4_constant : GoodIn wsX4_record (wsV RX4 97 RX4 yX4_constant wsX4_constant) := goodIn_app (goodIn_of _ (by decide +kernel)) ggX4_record_X4_constant
set_option maxRecDepth 20000 in
theorem ggX4_record_X4_wrong : GoodIn wsX4_record wsX4_wrong := goodIn_r _ [25, 1, 26, 19, 20, 7, 21, 33, 34, 35, 36, 37, 38, 39, 40, 41, 42, 43, 44, 45, 46, 47, 48, 49, 50, 51] (by decide +kernel) (by decide +kernel)
set_option maxRecDepth 20000 in
theorem gX4_record_X4_wrong : GoodIn wsX4_record (wsV RX4 140 RX4 yX4_wrong wsX4_wrong) := goodIn_app (goodIn_of _ (by decide +kernel)) ggX4_record_X4_wrong
set_option maxRecDepth 20000 in
theorem ggX4_record_X4_take : GoodIn wsX4_record wsX4_take := goodIn_r _ [30, 31, 32, 33, 34, 35, 36, 37, 38, 39, 40, 41, 42, 43, 44, 45, 46, 47, 48, 49, 50, 51] (by decide +kernel) (by decide +kernel)
set_option maxRecDepth 20000 in
theorem gX4_record_X4_take : GoodIn wsX4_record (wsV RX4 147 RX4 yX4_take wsX4_take) := goodIn_app (goodIn_of _ (by decide +kernel)) ggX4_record_X4_take
theorem dX4_record_0 : decode cX4_record 0 = .ok (.iload_n 1, 1) := by decide +kernel
theorem dX4_record_1 : decode cX4_record 1 = .ok (.invokestatic 137, 3) := by decide +kernel
theorem dX4_record_4 : decode cX4_record 4 = .ok (.ifCond .ne 5, 3) := by decide +kernel
theorem dX4_record_7 : decode cX4_record 7 = .ok (.iconst (-1), 1) := by decide +kernel
theorem dX4_record_8 : decode cX4_record 8 = .ok (.ireturn, 1) := by decide +kernel
theorem dX4_record_9 : decode cX4_record 9 = .ok (.aload_n 0, 1) := by decide +kernel
theorem dX4_record_10 : decode cX4_record 10 = .ok (.getfield 60, 3) := by decide +kernel
theorem dX4_record_13 : decode cX4_record 13 = .ok (.iload_n 1, 1) := by decide +kernel
theorem dX4_record_14 : decode cX4_record 14 = .ok (.iaload, 1) := by decide +kernel
theorem dX4_record_15 : decode cX4_record 15 = .ok (.bipush 30, 2) := by decide +kernel
theorem dX4_record_17 : decode cX4_record 17 = .ok (.if_icmp .ne 6, 3) := by decide +kernel
theorem dX4_record_20 : decode cX4_record 20 = .ok (.bipush (-2), 2) := by decide +kernel
theorem dX4_record_22 : decode cX4_record 22 = .ok (.ireturn, 1) := by decide +kernel
theorem dX4_record_23 : decode cX4_record 23 = .ok (.aload_n 0, 1) := by decide +kernel
theorem dX4_record_24 : decode cX4_record 24 = .ok (.getfield 76, 3) := by decide +kernel
theorem dX4_record_27 : decode cX4_record 27 = .ok (.iconst 0, 1) := by decide +kernel
theorem dX4_record_28 : decode cX4_record 28 = .ok (.aload_n 0, 1) := by decide +kernel
theorem dX4_record_29 : decode cX4_record 29 = .ok (.iload_n 1, 1) := by decide +kernel
theorem dX4_record_30 : decode cX4_record 30 = .ok (.iload_n 2, 1) := by decide +kernel
theorem dX4_record_31 : decode cX4_record 31 = .ok (.invokevirtual 97, 3) := by decide +kernel
theorem dX4_record_34 : decode cX4_record 34 = .ok (.iastore, 1) := by decide +kernel
theorem dX4_record_35 : decode cX4_record 35 = .ok (.aload_n 0, 1) := by decide +kernel
theorem dX4_record_36 : decode cX4_record 36 = .ok (.getfield 76, 3) := by decide +kernel
theorem dX4_record_39 : decode cX4_record 39 = .ok (.iconst 1, 1) := by decide +kernel
theorem dX4_record_40 : decode cX4_record 40 = .ok (.iload_n 3, 1) := by decide +kernel
theorem dX4_record_41 : decode cX4_record 41 = .ok (.iastore, 1) := by decide +kernel
theorem dX4_record_42 : decode cX4_record 42 = .ok (.aload_n 0, 1) := by decide +kernel
theorem dX4_record_43 : decode cX4_record 43 = .ok (.getfield 76, 3) := by decide +kernel
theorem dX4_record_46 : decode cX4_record 46 = .ok (.iconst 2, 1) := by decide +kernel
theorem dX4_record_47 : decode cX4_record 47 = .ok (.iload_n 1, 1) := by decide +kernel
theorem dX4_record_48 : decode cX4_record 48 = .ok (.ifCond .ne 13, 3) := by decide +kernel
theorem dX4_record_51 : decode cX4_record 51 = .ok (.aload_n 0, 1) := by decide +kernel
theorem dX4_record_52 : decode cX4_record 52 = .ok (.iconst 2, 1) := by decide +kernel
theorem dX4_record_53 : decode cX4_record 53 = .ok (.iload 4, 2) := by decide +kernel
theorem dX4_record_55 : decode cX4_record 55 = .ok (.invokevirtual 97, 3) := by decide +kernel
theorem dX4_record_58 : decode cX4_record 58 = .ok (.goto 5, 3) := by decide +kernel
theorem dX4_record_61 : decode cX4_record 61 = .ok (.iload 4, 2) := by decide +kernel
theorem dX4_record_63 : decode cX4_record 63 = .ok (.iastore, 1) := by decide +kernel
theorem dX4_record_64 : decode cX4_record 64 = .ok (.aload_n 0, 1) := by decide +kernel
theorem dX4_record_65 : decode cX4_record 65 = .ok (.getfield 76, 3) := by decide +kernel
theorem dX4_record_68 : decode cX4_record 68 = .ok (.iconst 3, 1) := by decide +kernel
theorem dX4_record_69 : decode cX4_record 69 = .ok (.iload_n 1, 1) := by decide +kernel
theorem dX4_record_70 : decode cX4_record 70 = .ok (.ifCond .ne 7, 3) := by decide +kernel
theorem dX4_record_73 : decode cX4_record 73 = .ok (.iconst 0, 1) := by decide +kernel
theorem dX4_record_74 : decode cX4_record 74 = .ok (.goto 5, 3) := by decide +kernel
theorem dX4_record_77 : decode cX4_record 77 = .ok (.iload 5, 2) := by decide +kernel
theorem dX4_record_79 : decode cX4_record 79 = .ok (.iastore, 1) := by decide +kernel
theorem dX4_record_80 : decode cX4_record 80 = .ok (.aload_n 0, 1) := by decide +kernel
theorem dX4_record_81 : decode cX4_record 81 = .ok (.iload_n 1, 1) := by decide +kernel
theorem dX4_record_82 : decode cX4_record 82 = .ok (.aload_n 0, 1) := by decide +kernel
theorem dX4_record_83 : decode cX4_record 83 = .ok (.getfield 76, 3) := by decide +kernel
theorem dX4_record_86 : decode cX4_record 86 = .ok (.iconst 0, 1) := by decide +kernel
theorem dX4_record_87 : decode cX4_record 87 = .ok (.invokevirtual 140, 3) := by decide +kernel
theorem dX4_record_90 : decode cX4_record 90 = .ok (.istore 6, 2) := by decide +kernel
theorem dX4_record_92 : decode cX4_record 92 = .ok (.iload 6, 2) := by decide +kernel
theorem dX4_record_94 : decode cX4_record 94 = .ok (.bipush (-4), 2) := by decide +kernel
theorem dX4_record_96 : decode cX4_record 96 = .ok (.if_icmp .eq 19, 3) := by decide +kernel
theorem dX4_record_99 : decode cX4_record 99 = .ok (.aload_n 0, 1) := by decide +kernel
theorem dX4_record_100 : decode cX4_record 100 = .ok (.dup, 1) := by decide +kernel
theorem dX4_record_101 : decode cX4_record 101 = .ok (.getfield 144, 3) := by decide +kernel
theorem dX4_record_104 : decode cX4_record 104 = .ok (.iconst 1, 1) := by decide +kernel
theorem dX4_record_105 : decode cX4_record 105 = .ok (.iadd, 1) := by decide +kernel
theorem dX4_record_106 : decode cX4_record 106 = .ok (.putfield 144, 3) := by decide +kernel
theorem dX4_record_109 : decode cX4_record 109 = .ok (.bipush (-10), 2) := by decide +kernel
theorem dX4_record_111 : decode cX4_record 111 = .ok (.iload 6, 2) := by decide +kernel
theorem dX4_record_113 : decode cX4_record 113 = .ok (.isub, 1) := by decide +kernel
theorem dX4_record_114 : decode cX4_record 114 = .ok (.ireturn, 1) := by decide +kernel
theorem dX4_record_115 : decode cX4_record 115 = .ok (.bipush 120, 2) := by decide +kernel
theorem dX4_record_117 : decode cX4_record 117 = .ok (.iload_n 1, 1) := by decide +kernel
theorem dX4_record_118 : decode cX4_record 118 = .ok (.imul, 1) := by decide +kernel
theorem dX4_record_119 : decode cX4_record 119 = .ok (.iconst 4, 1) := by decide +kernel
theorem dX4_record_120 : decode cX4_record 120 = .ok (.aload_n 0, 1) := by decide +kernel
theorem dX4_record_121 : decode cX4_record 121 = .ok (.getfield 60, 3) := by decide +kernel
theorem dX4_record_124 : decode cX4_record 124 = .ok (.iload_n 1, 1) := by decide +kernel
theorem dX4_record_125 : decode cX4_record 125 = .ok (.iaload, 1) := by decide +kernel
theorem dX4_record_126 : decode cX4_record 126 = .ok (.imul, 1) := by decide +kernel
theorem dX4_record_127 : decode cX4_record 127 = .ok (.iadd, 1) := by decide +kernel
theorem dX4_record_128 : decode cX4_record 128 = .ok (.istore 7, 2) := by decide +kernel
theorem dX4_record_130 : decode cX4_record 130 = .ok (.iconst 0, 1) := by decide +kernel
theorem dX4_record_131 : decode cX4_record 131 = .ok (.istore 8, 2) := by decide +kernel
theorem dX4_record_133 : decode cX4_record 133 = .ok (.iload 8, 2) := by decide +kernel
theorem dX4_record_135 : decode cX4_record 135 = .ok (.iconst 4, 1) := by decide +kernel
theorem dX4_record_136 : decode cX4_record 136 = .ok (.if_icmp .ge 26, 3) := by decide +kernel
theorem dX4_record_139 : decode cX4_record 139 = .ok (.aload_n 0, 1) := by decide +kernel
theorem dX4_record_140 : decode cX4_record 140 = .ok (.getfield 63, 3) := by decide +kernel
theorem dX4_record_143 : decode cX4_record 143 = .ok (.iload 7, 2) := by decide +kernel
theorem dX4_record_145 : decode cX4_record 145 = .ok (.iload 8, 2) := by decide +kernel
theorem dX4_record_147 : decode cX4_record 147 = .ok (.iadd, 1) := by decide +kernel
theorem dX4_record_148 : decode cX4_record 148 = .ok (.aload_n 0, 1) := by decide +kernel
theorem dX4_record_149 : decode cX4_record 149 = .ok (.getfield 76, 3) := by decide +kernel
theorem dX4_record_152 : decode cX4_record 152 = .ok (.iload 8, 2) := by decide +kernel
theorem dX4_record_154 : decode cX4_record 154 = .ok (.iaload, 1) := by decide +kernel
theorem dX4_record_155 : decode cX4_record 155 = .ok (.iastore, 1) := by decide +kernel
theorem dX4_record_156 : decode cX4_record 156 = .ok (.iinc 8 1, 3) := by decide +kernel
theorem dX4_record_159 : decode cX4_record 159 = .ok (.goto (-26), 3) := by decide +kernel
theorem dX4_record_162 : decode cX4_record 162 = .ok (.aload_n 0, 1) := by decide +kernel
theorem dX4_record_163 : decode cX4_record 163 = .ok (.iload_n 1, 1) := by decide +kernel
theorem dX4_record_164 : decode cX4_record 164 = .ok (.aload_n 0, 1) := by decide +kernel
theorem dX4_record_165 : decode cX4_record 165 = .ok (.getfield 76, 3) := by decide +kernel
theorem dX4_record_168 : decode cX4_record 168 = .ok (.iconst 0, 1) := by decide +kernel
theorem dX4_record_169 : decode cX4_record 169 = .ok (.invokevirtual 147, 3) := by decide +kernel
theorem dX4_record_172 : decode cX4_record 172 = .ok (.aload_n 0, 1) := by decide +kernel
theorem dX4_record_173 : decode cX4_record 173 = .ok (.getfield 60, 3) := by decide +kernel
theorem dX4_record_176 : decode cX4_record 176 = .ok (.iload_n 1, 1) := by decide +kernel
theorem dX4_record_177 : decode cX4_record 177 = .ok (.dup2, 1) := by decide +kernel
theorem dX4_record_178 : decode cX4_record 178 = .ok (.iaload, 1) := by decide +kernel
theorem dX4_record_179 : decode cX4_record 179 = .ok (.iconst 1, 1) := by decide +kernel
theorem dX4_record_180 : decode cX4_record 180 = .ok (.iadd, 1) := by decide +kernel
theorem dX4_record_181 : decode cX4_record 181 = .ok (.iastore, 1) := by decide +kernel
theorem dX4_record_182 : decode cX4_record 182 = .ok (.aload_n 0, 1) := by decide +kernel
theorem dX4_record_183 : decode cX4_record 183 = .ok (.getfield 60, 3) := by decide +kernel
theorem dX4_record_186 : decode cX4_record 186 = .ok (.iload_n 1, 1) := by decide +kernel
theorem dX4_record_187 : decode cX4_record 187 = .ok (.iaload, 1) := by decide +kernel
theorem dX4_record_188 : decode cX4_record 188 = .ok (.iconst 1, 1) := by decide +kernel
theorem dX4_record_189 : decode cX4_record 189 = .ok (.isub, 1) := by decide +kernel
theorem dX4_record_190 : decode cX4_record 190 = .ok (.ireturn, 1) := by decide +kernel
set_option maxRecDepth 20000 in
theorem ggX4_lay_X4_isCell : GoodIn wsX4_lay wsX4_isCell := goodIn_r _ [6, 7, 8, 9, 5, 10, 11, 12, 13, 14, 15, 16, 30, 31, 32, 33, 34, 35, 36, 37, 38, 39, 40, 41, 42, 43, 44, 45, 46, 47, 48] (by decide +kernel) (by decide +kernel)
set_option maxRecDepth 20000 in
theorem gX4_lay_X4_isCell : GoodIn wsX4_lay (wsV RX4 154 RX4 yX4_isCell wsX4_isCell) := goodIn_app (goodIn_of _ (by decide +kernel)) ggX4_lay_X4_isCell
set_option maxRecDepth 20000 in
theorem ggX4_lay_X4_kindOf : GoodIn wsX4_lay wsX4_kindOf := goodIn_r _ [19] (by decide +kernel) (by decide +kernel)
set_option maxRecDepth 20000 in
theorem gX4_lay_X4_kindOf : GoodIn wsX4_lay (va_wsS RX4 157 yX4_kindOf wsX4_kindOf) := goodIn_app (goodIn_of _ (by decide +kernel)) ggX4_lay_X4_kindOf
set_option maxRecDepth 20000 in
theorem ggX4_lay_X4_constant : GoodIn wsX4_lay wsX4_constant := goodIn_r _ [23, 24, 25, 26, 27, 5, 28, 29, 11, 12, 13, 30, 31, 32, 33, 34, 35, 36, 37, 38, 39, 40, 41, 42, 43, 44, 45, 46, 47, 48] (by decide +kernel) (by decide +kernel)
set_option maxRecDepth 20000 in
theorem gX4_lay_X4_constant : GoodIn wsX4_lay (wsV RX4 97 RX4 yX4_constant wsX4_constant) := goodIn_app (goodIn_of _ (by decide +kernel)) ggX4_lay_X4_constant
theorem dX4_lay_0 : decode cX4_lay 0 = .ok (.aload_n 0, 1) := by decide +kernel
theorem dX4_lay_1 : decode cX4_lay 1 = .ok (.iload_n 1, 1) := by decide +kernel
theorem dX4_lay_2 : decode cX4_lay 2 = .ok (.iload_n 2, 1) := by decide +kernel
theorem dX4_lay_3 : decode cX4_lay 3 = .ok (.iload_n 3, 1) := by decide +kernel
theorem dX4_lay_4 : decode cX4_lay 4 = .ok (.invokevirtual 154, 3) := by decide +kernel
theorem dX4_lay_7 : decode cX4_lay 7 = .ok (.ifCond .ne 5, 3) := by decide +kernel
theorem dX4_lay_10 : decode cX4_lay 10 = .ok (.iconst (-1), 1) := by decide +kernel
theorem dX4_lay_11 : decode cX4_lay 11 = .ok (.ireturn, 1) := by decide +kernel
theorem dX4_lay_12 : decode cX4_lay 12 = .ok (.iload_n 1, 1) := by decide +kernel
theorem dX4_lay_13 : decode cX4_lay 13 = .ok (.iload_n 3, 1) := by decide +kernel
theorem dX4_lay_14 : decode cX4_lay 14 = .ok (.invokestatic 157, 3) := by decide +kernel
theorem dX4_lay_17 : decode cX4_lay 17 = .ok (.istore 5, 2) := by decide +kernel
theorem dX4_lay_19 : decode cX4_lay 19 = .ok (.aload_n 0, 1) := by decide +kernel
theorem dX4_lay_20 : decode cX4_lay 20 = .ok (.getfield 63, 3) := by decide +kernel
theorem dX4_lay_23 : decode cX4_lay 23 = .ok (.bipush 120, 2) := by decide +kernel
theorem dX4_lay_25 : decode cX4_lay 25 = .ok (.iload_n 1, 1) := by decide +kernel
theorem dX4_lay_26 : decode cX4_lay 26 = .ok (.imul, 1) := by decide +kernel
theorem dX4_lay_27 : decode cX4_lay 27 = .ok (.iconst 4, 1) := by decide +kernel
theorem dX4_lay_28 : decode cX4_lay 28 = .ok (.iload_n 2, 1) := by decide +kernel
theorem dX4_lay_29 : decode cX4_lay 29 = .ok (.imul, 1) := by decide +kernel
theorem dX4_lay_30 : decode cX4_lay 30 = .ok (.iadd, 1) := by decide +kernel
theorem dX4_lay_31 : decode cX4_lay 31 = .ok (.iload_n 3, 1) := by decide +kernel
theorem dX4_lay_32 : decode cX4_lay 32 = .ok (.iadd, 1) := by decide +kernel
theorem dX4_lay_33 : decode cX4_lay 33 = .ok (.iload 5, 2) := by decide +kernel
theorem dX4_lay_35 : decode cX4_lay 35 = .ok (.bipush (-4), 2) := by decide +kernel
theorem dX4_lay_37 : decode cX4_lay 37 = .ok (.if_icmp .ne 8, 3) := by decide +kernel
theorem dX4_lay_40 : decode cX4_lay 40 = .ok (.iload 4, 2) := by decide +kernel
theorem dX4_lay_42 : decode cX4_lay 42 = .ok (.goto 11, 3) := by decide +kernel
theorem dX4_lay_45 : decode cX4_lay 45 = .ok (.aload_n 0, 1) := by decide +kernel
theorem dX4_lay_46 : decode cX4_lay 46 = .ok (.iload 5, 2) := by decide +kernel
theorem dX4_lay_48 : decode cX4_lay 48 = .ok (.iload 4, 2) := by decide +kernel
theorem dX4_lay_50 : decode cX4_lay 50 = .ok (.invokevirtual 97, 3) := by decide +kernel
theorem dX4_lay_53 : decode cX4_lay 53 = .ok (.iastore, 1) := by decide +kernel
theorem dX4_lay_54 : decode cX4_lay 54 = .ok (.iconst 1, 1) := by decide +kernel
theorem dX4_lay_55 : decode cX4_lay 55 = .ok (.ireturn, 1) := by decide +kernel
set_option maxRecDepth 20000 in
theorem ggX4_cell_X4_isCell : GoodIn wsX4_cell wsX4_isCell := goodIn_r _ [7, 8, 9, 10, 6, 11, 12, 13, 14, 15, 16, 17, 30, 31, 32, 33, 34, 35, 36, 37, 38, 39, 40, 41, 42, 43, 44, 45, 46, 47, 48] (by decide +kernel) (by decide +kernel)
set_option maxRecDepth 20000 in
theorem gX4_cell_X4_isCell : GoodIn wsX4_cell (wsV RX4 154 RX4 yX4_isCell wsX4_isCell) := goodIn_app (goodIn_of _ (by decide +kernel)) ggX4_cell_X4_isCell
set_option maxRecDepth 20000 in
theorem ggX4_cell_X4_toldOf : GoodIn wsX4_cell wsX4_toldOf := goodIn_r _ [21, 22, 23, 6, 24, 25, 26, 27, 28, 29, 30, 31, 32, 33, 34, 35, 36, 37, 38, 39, 40, 41, 42, 43, 44, 45, 46, 47, 48] (by decide +kernel) (by decide +kernel)
set_option maxRecDepth 20000 in
theorem gX4_cell_X4_toldOf : GoodIn wsX4_cell (wsV RX4 163 RX4 yX4_toldOf wsX4_toldOf) := goodIn_app (goodIn_of _ (by decide +kernel)) ggX4_cell_X4_toldOf
theorem dX4_cell_0 : decode cX4_cell 0 = .ok (.aload_n 0, 1) := by decide +kernel
theorem dX4_cell_1 : decode cX4_cell 1 = .ok (.iload_n 1, 1) := by decide +kernel
theorem dX4_cell_2 : decode cX4_cell 2 = .ok (.iload_n 2, 1) := by decide +kernel
theorem dX4_cell_3 : decode cX4_cell 3 = .ok (.iload_n 3, 1) := by decide +kernel
theorem dX4_cell_4 : decode cX4_cell 4 = .ok (.invokevirtual 154, 3) := by decide +kernel
theorem dX4_cell_7 : decode cX4_cell 7 = .ok (.ifCond .eq 27, 3) := by decide +kernel
theorem dX4_cell_10 : decode cX4_cell 10 = .ok (.aload_n 0, 1) := by decide +kernel
theorem dX4_cell_11 : decode cX4_cell 11 = .ok (.iload_n 1, 1) := by decide +kernel
theorem dX4_cell_12 : decode cX4_cell 12 = .ok (.iload_n 3, 1) := by decide +kernel
theorem dX4_cell_13 : decode cX4_cell 13 = .ok (.aload_n 0, 1) := by decide +kernel
theorem dX4_cell_14 : decode cX4_cell 14 = .ok (.getfield 63, 3) := by decide +kernel
theorem dX4_cell_17 : decode cX4_cell 17 = .ok (.bipush 120, 2) := by decide +kernel
theorem dX4_cell_19 : decode cX4_cell 19 = .ok (.iload_n 1, 1) := by decide +kernel
theorem dX4_cell_20 : decode cX4_cell 20 = .ok (.imul, 1) := by decide +kernel
theorem dX4_cell_21 : decode cX4_cell 21 = .ok (.iconst 4, 1) := by decide +kernel
theorem dX4_cell_22 : decode cX4_cell 22 = .ok (.iload_n 2, 1) := by decide +kernel
theorem dX4_cell_23 : decode cX4_cell 23 = .ok (.imul, 1) := by decide +kernel
theorem dX4_cell_24 : decode cX4_cell 24 = .ok (.iadd, 1) := by decide +kernel
theorem dX4_cell_25 : decode cX4_cell 25 = .ok (.iload_n 3, 1) := by decide +kernel
theorem dX4_cell_26 : decode cX4_cell 26 = .ok (.iadd, 1) := by decide +kernel
theorem dX4_cell_27 : decode cX4_cell 27 = .ok (.iaload, 1) := by decide +kernel
theorem dX4_cell_28 : decode cX4_cell 28 = .ok (.invokevirtual 163, 3) := by decide +kernel
theorem dX4_cell_31 : decode cX4_cell 31 = .ok (.goto 5, 3) := by decide +kernel
theorem dX4_cell_34 : decode cX4_cell 34 = .ok (.ldc 167, 2) := by decide +kernel
theorem dX4_cell_36 : decode cX4_cell 36 = .ok (.ireturn, 1) := by decide +kernel
set_option maxRecDepth 20000 in
theorem ggX4_back_X4_isCell : GoodIn wsX4_back wsX4_isCell := goodIn_r _ [7, 8, 9, 10, 6, 11, 12, 13, 14, 15, 16, 17, 29, 30, 31, 32, 33, 34, 35, 36, 37, 38, 39, 40, 41, 42, 43, 44, 45, 46, 47] (by decide +kernel) (by decide +kernel)
set_option maxRecDepth 20000 in
theorem gX4_back_X4_isCell : GoodIn wsX4_back (wsV RX4 154 RX4 yX4_isCell wsX4_isCell) := goodIn_app (goodIn_of _ (by decide +kernel)) ggX4_back_X4_isCell
set_option maxRecDepth 20000 in
theorem ggX4_back_X4_wrong : GoodIn wsX4_back wsX4_wrong := goodIn_r _ [21, 8, 22, 12, 13, 6, 14, 29, 30, 31, 32, 33, 34, 35, 36, 37, 38, 39, 40, 41, 42, 43, 44, 45, 46, 47] (by decide +kernel) (by decide +kernel)
set_option maxRecDepth 20000 in
theorem gX4_back_X4_wrong : GoodIn wsX4_back (wsV RX4 140 RX4 yX4_wrong wsX4_wrong) := goodIn_app (goodIn_of _ (by decide +kernel)) ggX4_back_X4_wrong
set_option maxRecDepth 20000 in
theorem ggX4_back_X4_take : GoodIn wsX4_back wsX4_take := goodIn_r _ [26, 27, 28, 29, 30, 31, 32, 33, 34, 35, 36, 37, 38, 39, 40, 41, 42, 43, 44, 45, 46, 47] (by decide +kernel) (by decide +kernel)
set_option maxRecDepth 20000 in
theorem gX4_back_X4_take : GoodIn wsX4_back (wsV RX4 147 RX4 yX4_take wsX4_take) := goodIn_app (goodIn_of _ (by decide +kernel)) ggX4_back_X4_take
theorem dX4_back_0 : decode cX4_back 0 = .ok (.aload_n 0, 1) := by decide +kernel
theorem dX4_back_1 : decode cX4_back 1 = .ok (.iload_n 1, 1) := by decide +kernel
theorem dX4_back_2 : decode cX4_back 2 = .ok (.iload_n 2, 1) := by decide +kernel
theorem dX4_back_3 : decode cX4_back 3 = .ok (.iconst 0, 1) := by decide +kernel
theorem dX4_back_4 : decode cX4_back 4 = .ok (.invokevirtual 154, 3) := by decide +kernel
theorem dX4_back_7 : decode cX4_back 7 = .ok (.ifCond .ne 5, 3) := by decide +kernel
theorem dX4_back_10 : decode cX4_back 10 = .ok (.iconst (-1), 1) := by decide +kernel
theorem dX4_back_11 : decode cX4_back 11 = .ok (.ireturn, 1) := by decide +kernel
theorem dX4_back_12 : decode cX4_back 12 = .ok (.bipush 120, 2) := by decide +kernel
theorem dX4_back_14 : decode cX4_back 14 = .ok (.iload_n 1, 1) := by decide +kernel
theorem dX4_back_15 : decode cX4_back 15 = .ok (.imul, 1) := by decide +kernel
theorem dX4_back_16 : decode cX4_back 16 = .ok (.iconst 4, 1) := by decide +kernel
theorem dX4_back_17 : decode cX4_back 17 = .ok (.iload_n 2, 1) := by decide +kernel
theorem dX4_back_18 : decode cX4_back 18 = .ok (.imul, 1) := by decide +kernel
theorem dX4_back_19 : decode cX4_back 19 = .ok (.iadd, 1) := by decide +kernel
theorem dX4_back_20 : decode cX4_back 20 = .ok (.istore_n 3, 1) := by decide +kernel
theorem dX4_back_21 : decode cX4_back 21 = .ok (.aload_n 0, 1) := by decide +kernel
theorem dX4_back_22 : decode cX4_back 22 = .ok (.iload_n 1, 1) := by decide +kernel
theorem dX4_back_23 : decode cX4_back 23 = .ok (.aload_n 0, 1) := by decide +kernel
theorem dX4_back_24 : decode cX4_back 24 = .ok (.getfield 63, 3) := by decide +kernel
theorem dX4_back_27 : decode cX4_back 27 = .ok (.iload_n 3, 1) := by decide +kernel
theorem dX4_back_28 : decode cX4_back 28 = .ok (.invokevirtual 140, 3) := by decide +kernel
theorem dX4_back_31 : decode cX4_back 31 = .ok (.istore 4, 2) := by decide +kernel
theorem dX4_back_33 : decode cX4_back 33 = .ok (.iload 4, 2) := by decide +kernel
theorem dX4_back_35 : decode cX4_back 35 = .ok (.bipush (-4), 2) := by decide +kernel
theorem dX4_back_37 : decode cX4_back 37 = .ok (.if_icmp .eq 19, 3) := by decide +kernel
theorem dX4_back_40 : decode cX4_back 40 = .ok (.aload_n 0, 1) := by decide +kernel
theorem dX4_back_41 : decode cX4_back 41 = .ok (.dup, 1) := by decide +kernel
theorem dX4_back_42 : decode cX4_back 42 = .ok (.getfield 144, 3) := by decide +kernel
theorem dX4_back_45 : decode cX4_back 45 = .ok (.iconst 1, 1) := by decide +kernel
theorem dX4_back_46 : decode cX4_back 46 = .ok (.iadd, 1) := by decide +kernel
theorem dX4_back_47 : decode cX4_back 47 = .ok (.putfield 144, 3) := by decide +kernel
theorem dX4_back_50 : decode cX4_back 50 = .ok (.bipush (-10), 2) := by decide +kernel
theorem dX4_back_52 : decode cX4_back 52 = .ok (.iload 4, 2) := by decide +kernel
theorem dX4_back_54 : decode cX4_back 54 = .ok (.isub, 1) := by decide +kernel
theorem dX4_back_55 : decode cX4_back 55 = .ok (.ireturn, 1) := by decide +kernel
theorem dX4_back_56 : decode cX4_back 56 = .ok (.aload_n 0, 1) := by decide +kernel
theorem dX4_back_57 : decode cX4_back 57 = .ok (.iload_n 1, 1) := by decide +kernel
theorem dX4_back_58 : decode cX4_back 58 = .ok (.aload_n 0, 1) := by decide +kernel
theorem dX4_back_59 : decode cX4_back 59 = .ok (.getfield 63, 3) := by decide +kernel
theorem dX4_back_62 : decode cX4_back 62 = .ok (.iload_n 3, 1) := by decide +kernel
theorem dX4_back_63 : decode cX4_back 63 = .ok (.invokevirtual 147, 3) := by decide +kernel
theorem dX4_back_66 : decode cX4_back 66 = .ok (.iconst 1, 1) := by decide +kernel
theorem dX4_back_67 : decode cX4_back 67 = .ok (.ireturn, 1) := by decide +kernel
set_option maxRecDepth 20000 in
theorem ggX4_part_X4_items : GoodIn wsX4_part wsX4_items := goodIn_r _ [6] (by decide +kernel) (by decide +kernel)
set_option maxRecDepth 20000 in
theorem gX4_part_X4_items : GoodIn wsX4_part (va_wsS RX4 151 yX4_items wsX4_items) := goodIn_app (goodIn_of _ (by decide +kernel)) ggX4_part_X4_items
set_option maxRecDepth 20000 in
theorem ggX4_part_X4_isIn : GoodIn wsX4_part wsX4_isIn := goodIn_r _ [9] (by decide +kernel) (by decide +kernel)
set_option maxRecDepth 20000 in
theorem gX4_part_X4_isIn : GoodIn wsX4_part (va_wsS RX4 79 yX4_isIn wsX4_isIn) := goodIn_app (goodIn_of _ (by decide +kernel)) ggX4_part_X4_isIn
set_option maxRecDepth 20000 in
theorem ggX4_part_X4_toldOf : GoodIn wsX4_part wsX4_toldOf := goodIn_r _ [13, 14, 15, 5, 16, 17, 18, 19, 20, 21, 22, 23, 24, 25, 26, 27, 28, 29, 30, 31, 32, 33, 34, 35, 36, 37, 38, 39, 40] (by decide +kernel) (by decide +kernel)
set_option maxRecDepth 20000 in
theorem gX4_part_X4_toldOf : GoodIn wsX4_part (wsV RX4 163 RX4 yX4_toldOf wsX4_toldOf) := goodIn_app (goodIn_of _ (by decide +kernel)) ggX4_part_X4_toldOf
theorem dX4_part_0 : decode cX4_part 0 = .ok (.aload_n 0, 1) := by decide +kernel
theorem dX4_part_1 : decode cX4_part 1 = .ok (.getfield 66, 3) := by decide +kernel
theorem dX4_part_4 : decode cX4_part 4 = .ok (.bipush (-4), 2) := by decide +kernel
theorem dX4_part_6 : decode cX4_part 6 = .ok (.if_icmp .eq 20, 3) := by decide +kernel
theorem dX4_part_9 : decode cX4_part 9 = .ok (.iload_n 1, 1) := by decide +kernel
theorem dX4_part_10 : decode cX4_part 10 = .ok (.iconst 0, 1) := by decide +kernel
theorem dX4_part_11 : decode cX4_part 11 = .ok (.aload_n 0, 1) := by decide +kernel
theorem dX4_part_12 : decode cX4_part 12 = .ok (.getfield 66, 3) := by decide +kernel
theorem dX4_part_15 : decode cX4_part 15 = .ok (.invokestatic 151, 3) := by decide +kernel
theorem dX4_part_18 : decode cX4_part 18 = .ok (.iconst 1, 1) := by decide +kernel
theorem dX4_part_19 : decode cX4_part 19 = .ok (.isub, 1) := by decide +kernel
theorem dX4_part_20 : decode cX4_part 20 = .ok (.invokestatic 79, 3) := by decide +kernel
theorem dX4_part_23 : decode cX4_part 23 = .ok (.ifCond .ne 8, 3) := by decide +kernel
theorem dX4_part_26 : decode cX4_part 26 = .ok (.bipush (-4), 2) := by decide +kernel
theorem dX4_part_28 : decode cX4_part 28 = .ok (.goto 18, 3) := by decide +kernel
theorem dX4_part_31 : decode cX4_part 31 = .ok (.aload_n 0, 1) := by decide +kernel
theorem dX4_part_32 : decode cX4_part 32 = .ok (.aload_n 0, 1) := by decide +kernel
theorem dX4_part_33 : decode cX4_part 33 = .ok (.getfield 66, 3) := by decide +kernel
theorem dX4_part_36 : decode cX4_part 36 = .ok (.iload_n 1, 1) := by decide +kernel
theorem dX4_part_37 : decode cX4_part 37 = .ok (.aload_n 0, 1) := by decide +kernel
theorem dX4_part_38 : decode cX4_part 38 = .ok (.getfield 70, 3) := by decide +kernel
theorem dX4_part_41 : decode cX4_part 41 = .ok (.iload_n 1, 1) := by decide +kernel
theorem dX4_part_42 : decode cX4_part 42 = .ok (.iaload, 1) := by decide +kernel
theorem dX4_part_43 : decode cX4_part 43 = .ok (.invokevirtual 163, 3) := by decide +kernel
theorem dX4_part_46 : decode cX4_part 46 = .ok (.ireturn, 1) := by decide +kernel
set_option maxRecDepth 20000 in
theorem ggX4_filter_X4_isTable : GoodIn wsX4_filter wsX4_isTable := goodIn_r _ [10] (by decide +kernel) (by decide +kernel)
set_option maxRecDepth 20000 in
theorem gX4_filter_X4_isTable : GoodIn wsX4_filter (va_wsS RX4 137 yX4_isTable wsX4_isTable) := goodIn_app (goodIn_of _ (by decide +kernel)) ggX4_filter_X4_isTable
set_option maxRecDepth 20000 in
theorem ggX4_filter_X4_isSet : GoodIn wsX4_filter wsX4_isSet := goodIn_r _ [13, 14, 15, 9, 16] (by decide +kernel) (by decide +kernel)
set_option maxRecDepth 20000 in
theorem gX4_filter_X4_isSet : GoodIn wsX4_filter (va_wsS RX4 130 yX4_isSet wsX4_isSet) := goodIn_app (goodIn_of _ (by decide +kernel)) ggX4_filter_X4_isSet
set_option maxRecDepth 20000 in
theorem ggX4_filter_X4_items : GoodIn wsX4_filter wsX4_items := goodIn_r _ [19] (by decide +kernel) (by decide +kernel)
set_option maxRecDepth 20000 in
theorem gX4_filter_X4_items : GoodIn wsX4_filter (va_wsS RX4 151 yX4_items wsX4_items) := goodIn_app (goodIn_of _ (by decide +kernel)) ggX4_filter_X4_items
set_option maxRecDepth 20000 in
theorem ggX4_filter_X4_isIn : GoodIn wsX4_filter wsX4_isIn := goodIn_r _ [16] (by decide +kernel) (by decide +kernel)
set_option maxRecDepth 20000 in
theorem gX4_filter_X4_isIn : GoodIn wsX4_filter (va_wsS RX4 79 yX4_isIn wsX4_isIn) := goodIn_app (goodIn_of _ (by decide +kernel)) ggX4_filter_X4_isIn
set_option maxRecDepth 20000 in
theorem ggX4_filter_X4_wrong : GoodIn wsX4_filter wsX4_wrong := goodIn_r _ [23, 3, 24, 14, 15, 9, 16, 37, 38, 39, 40, 41, 42, 43, 44, 45, 46, 47, 48, 49, 50, 51, 52, 53, 54, 55] (by decide +kernel) (by decide +kernel)
set_option maxRecDepth 20000 in
theorem gX4_filter_X4_wrong : GoodIn wsX4_filter (wsV RX4 140 RX4 yX4_wrong wsX4_wrong) := goodIn_app (goodIn_of _ (by decide +kernel)) ggX4_filter_X4_wrong
set_option maxRecDepth 20000 in
theorem ggX4_filter_X4_toldOf : GoodIn wsX4_filter wsX4_toldOf := goodIn_r _ [28, 29, 30, 9, 31, 32, 33, 34, 35, 36, 37, 38, 39, 40, 41, 42, 43, 44, 45, 46, 47, 48, 49, 50, 51, 52, 53, 54, 55] (by decide +kernel) (by decide +kernel)
set_option maxRecDepth 20000 in
theorem gX4_filter_X4_toldOf : GoodIn wsX4_filter (wsV RX4 163 RX4 yX4_toldOf wsX4_toldOf) := goodIn_app (goodIn_of _ (by decide +kernel)) ggX4_filter_X4_toldOf
theorem dX4_filter_0 : decode cX4_filter 0 = .ok (.iload_n 1, 1) := by decide +kernel
theorem dX4_filter_1 : decode cX4_filter 1 = .ok (.invokestatic 137, 3) := by decide +kernel
theorem dX4_filter_4 : decode cX4_filter 4 = .ok (.ifCond .eq 24, 3) := by decide +kernel
theorem dX4_filter_7 : decode cX4_filter 7 = .ok (.iload_n 2, 1) := by decide +kernel
theorem dX4_filter_8 : decode cX4_filter 8 = .ok (.invokestatic 130, 3) := by decide +kernel
theorem dX4_filter_11 : decode cX4_filter 11 = .ok (.ifCond .eq 17, 3) := by decide +kernel
theorem dX4_filter_14 : decode cX4_filter 14 = .ok (.iload_n 3, 1) := by decide +kernel
theorem dX4_filter_15 : decode cX4_filter 15 = .ok (.iconst 1, 1) := by decide +kernel
theorem dX4_filter_16 : decode cX4_filter 16 = .ok (.iload_n 1, 1) := by decide +kernel
theorem dX4_filter_17 : decode cX4_filter 17 = .ok (.invokestatic 151, 3) := by decide +kernel
theorem dX4_filter_20 : decode cX4_filter 20 = .ok (.iconst 1, 1) := by decide +kernel
theorem dX4_filter_21 : decode cX4_filter 21 = .ok (.isub, 1) := by decide +kernel
theorem dX4_filter_22 : decode cX4_filter 22 = .ok (.invokestatic 79, 3) := by decide +kernel
theorem dX4_filter_25 : decode cX4_filter 25 = .ok (.ifCond .ne 5, 3) := by decide +kernel
theorem dX4_filter_28 : decode cX4_filter 28 = .ok (.iconst (-1), 1) := by decide +kernel
theorem dX4_filter_29 : decode cX4_filter 29 = .ok (.ireturn, 1) := by decide +kernel
theorem dX4_filter_30 : decode cX4_filter 30 = .ok (.aload_n 0, 1) := by decide +kernel
theorem dX4_filter_31 : decode cX4_filter 31 = .ok (.getfield 54, 3) := by decide +kernel
theorem dX4_filter_34 : decode cX4_filter 34 = .ok (.iload_n 2, 1) := by decide +kernel
theorem dX4_filter_35 : decode cX4_filter 35 = .ok (.iaload, 1) := by decide +kernel
theorem dX4_filter_36 : decode cX4_filter 36 = .ok (.iload_n 1, 1) := by decide +kernel
theorem dX4_filter_37 : decode cX4_filter 37 = .ok (.if_icmp .eq 6, 3) := by decide +kernel
theorem dX4_filter_40 : decode cX4_filter 40 = .ok (.bipush (-3), 2) := by decide +kernel
theorem dX4_filter_42 : decode cX4_filter 42 = .ok (.ireturn, 1) := by decide +kernel
theorem dX4_filter_43 : decode cX4_filter 43 = .ok (.aload_n 0, 1) := by decide +kernel
theorem dX4_filter_44 : decode cX4_filter 44 = .ok (.iconst 0, 1) := by decide +kernel
theorem dX4_filter_45 : decode cX4_filter 45 = .ok (.putfield 168, 3) := by decide +kernel
theorem dX4_filter_48 : decode cX4_filter 48 = .ok (.iconst 0, 1) := by decide +kernel
theorem dX4_filter_49 : decode cX4_filter 49 = .ok (.istore 6, 2) := by decide +kernel
theorem dX4_filter_51 : decode cX4_filter 51 = .ok (.iload 6, 2) := by decide +kernel
theorem dX4_filter_53 : decode cX4_filter 53 = .ok (.aload_n 0, 1) := by decide +kernel
theorem dX4_filter_54 : decode cX4_filter 54 = .ok (.getfield 60, 3) := by decide +kernel
theorem dX4_filter_57 : decode cX4_filter 57 = .ok (.iload_n 1, 1) := by decide +kernel
theorem dX4_filter_58 : decode cX4_filter 58 = .ok (.iaload, 1) := by decide +kernel
theorem dX4_filter_59 : decode cX4_filter 59 = .ok (.if_icmp .ge 102, 3) := by decide +kernel
theorem dX4_filter_62 : decode cX4_filter 62 = .ok (.bipush 120, 2) := by decide +kernel
theorem dX4_filter_64 : decode cX4_filter 64 = .ok (.iload_n 1, 1) := by decide +kernel
theorem dX4_filter_65 : decode cX4_filter 65 = .ok (.imul, 1) := by decide +kernel
theorem dX4_filter_66 : decode cX4_filter 66 = .ok (.iconst 4, 1) := by decide +kernel
theorem dX4_filter_67 : decode cX4_filter 67 = .ok (.iload 6, 2) := by decide +kernel
theorem dX4_filter_69 : decode cX4_filter 69 = .ok (.imul, 1) := by decide +kernel
theorem dX4_filter_70 : decode cX4_filter 70 = .ok (.iadd, 1) := by decide +kernel
theorem dX4_filter_71 : decode cX4_filter 71 = .ok (.istore 7, 2) := by decide +kernel
theorem dX4_filter_73 : decode cX4_filter 73 = .ok (.aload_n 0, 1) := by decide +kernel
theorem dX4_filter_74 : decode cX4_filter 74 = .ok (.iload_n 1, 1) := by decide +kernel
theorem dX4_filter_75 : decode cX4_filter 75 = .ok (.aload_n 0, 1) := by decide +kernel
theorem dX4_filter_76 : decode cX4_filter 76 = .ok (.getfield 63, 3) := by decide +kernel
theorem dX4_filter_79 : decode cX4_filter 79 = .ok (.iload 7, 2) := by decide +kernel
theorem dX4_filter_81 : decode cX4_filter 81 = .ok (.invokevirtual 140, 3) := by decide +kernel
theorem dX4_filter_84 : decode cX4_filter 84 = .ok (.bipush (-4), 2) := by decide +kernel
theorem dX4_filter_86 : decode cX4_filter 86 = .ok (.if_icmp .ne 69, 3) := by decide +kernel
theorem dX4_filter_89 : decode cX4_filter 89 = .ok (.aload_n 0, 1) := by decide +kernel
theorem dX4_filter_90 : decode cX4_filter 90 = .ok (.getfield 57, 3) := by decide +kernel
theorem dX4_filter_93 : decode cX4_filter 93 = .ok (.iload_n 2, 1) := by decide +kernel
theorem dX4_filter_94 : decode cX4_filter 94 = .ok (.iaload, 1) := by decide +kernel
theorem dX4_filter_95 : decode cX4_filter 95 = .ok (.aload_n 0, 1) := by decide +kernel
theorem dX4_filter_96 : decode cX4_filter 96 = .ok (.getfield 63, 3) := by decide +kernel
theorem dX4_filter_99 : decode cX4_filter 99 = .ok (.iload 7, 2) := by decide +kernel
theorem dX4_filter_101 : decode cX4_filter 101 = .ok (.iaload, 1) := by decide +kernel
theorem dX4_filter_102 : decode cX4_filter 102 = .ok (.ishr, 1) := by decide +kernel
theorem dX4_filter_103 : decode cX4_filter 103 = .ok (.iconst 1, 1) := by decide +kernel
theorem dX4_filter_104 : decode cX4_filter 104 = .ok (.iand, 1) := by decide +kernel
theorem dX4_filter_105 : decode cX4_filter 105 = .ok (.iconst 1, 1) := by decide +kernel
theorem dX4_filter_106 : decode cX4_filter 106 = .ok (.if_icmp .ne 49, 3) := by decide +kernel
theorem dX4_filter_109 : decode cX4_filter 109 = .ok (.aload_n 0, 1) := by decide +kernel
theorem dX4_filter_110 : decode cX4_filter 110 = .ok (.iload_n 1, 1) := by decide +kernel
theorem dX4_filter_111 : decode cX4_filter 111 = .ok (.iload_n 3, 1) := by decide +kernel
theorem dX4_filter_112 : decode cX4_filter 112 = .ok (.aload_n 0, 1) := by decide +kernel
theorem dX4_filter_113 : decode cX4_filter 113 = .ok (.getfield 63, 3) := by decide +kernel
theorem dX4_filter_116 : decode cX4_filter 116 = .ok (.iload 7, 2) := by decide +kernel
theorem dX4_filter_118 : decode cX4_filter 118 = .ok (.iload_n 3, 1) := by decide +kernel
theorem dX4_filter_119 : decode cX4_filter 119 = .ok (.iadd, 1) := by decide +kernel
theorem dX4_filter_120 : decode cX4_filter 120 = .ok (.iaload, 1) := by decide +kernel
theorem dX4_filter_121 : decode cX4_filter 121 = .ok (.invokevirtual 163, 3) := by decide +kernel
theorem dX4_filter_124 : decode cX4_filter 124 = .ok (.iload 4, 2) := by decide +kernel
theorem dX4_filter_126 : decode cX4_filter 126 = .ok (.iload 5, 2) := by decide +kernel
theorem dX4_filter_128 : decode cX4_filter 128 = .ok (.invokestatic 79, 3) := by decide +kernel
theorem dX4_filter_131 : decode cX4_filter 131 = .ok (.ifCond .eq 24, 3) := by decide +kernel
theorem dX4_filter_134 : decode cX4_filter 134 = .ok (.aload_n 0, 1) := by decide +kernel
theorem dX4_filter_135 : decode cX4_filter 135 = .ok (.getfield 73, 3) := by decide +kernel
theorem dX4_filter_138 : decode cX4_filter 138 = .ok (.aload_n 0, 1) := by decide +kernel
theorem dX4_filter_139 : decode cX4_filter 139 = .ok (.getfield 168, 3) := by decide +kernel
theorem dX4_filter_142 : decode cX4_filter 142 = .ok (.iload 6, 2) := by decide +kernel
theorem dX4_filter_144 : decode cX4_filter 144 = .ok (.iastore, 1) := by decide +kernel
theorem dX4_filter_145 : decode cX4_filter 145 = .ok (.aload_n 0, 1) := by decide +kernel
theorem dX4_filter_146 : decode cX4_filter 146 = .ok (.dup, 1) := by decide +kernel
theorem dX4_filter_147 : decode cX4_filter 147 = .ok (.getfield 168, 3) := by decide +kernel
theorem dX4_filter_150 : decode cX4_filter 150 = .ok (.iconst 1, 1) := by decide +kernel
theorem dX4_filter_151 : decode cX4_filter 151 = .ok (.iadd, 1) := by decide +kernel
theorem dX4_filter_152 : decode cX4_filter 152 = .ok (.putfield 168, 3) := by decide +kernel
theorem dX4_filter_155 : decode cX4_filter 155 = .ok (.iinc 6 1, 3) := by decide +kernel
theorem dX4_filter_158 : decode cX4_filter 158 = .ok (.goto (-107), 3) := by decide +kernel
theorem dX4_filter_161 : decode cX4_filter 161 = .ok (.aload_n 0, 1) := by decide +kernel
theorem dX4_filter_162 : decode cX4_filter 162 = .ok (.getfield 168, 3) := by decide +kernel
theorem dX4_filter_165 : decode cX4_filter 165 = .ok (.ireturn, 1) := by decide +kernel
set_option maxRecDepth 20000 in
theorem ggX4_sum_X4_isTable : GoodIn wsX4_sum wsX4_isTable := goodIn_r _ [8] (by decide +kernel) (by decide +kernel)
set_option maxRecDepth 20000 in
theorem gX4_sum_X4_isTable : GoodIn wsX4_sum (va_wsS RX4 137 yX4_isTable wsX4_isTable) := goodIn_app (goodIn_of _ (by decide +kernel)) ggX4_sum_X4_isTable
set_option maxRecDepth 20000 in
theorem ggX4_sum_X4_wrong : GoodIn wsX4_sum wsX4_wrong := goodIn_r _ [12, 2, 13, 14, 15, 7, 16, 36, 37, 38, 39, 40, 41, 42, 43, 44, 45, 46, 47, 48, 49, 50, 51, 52, 53, 54] (by decide +kernel) (by decide +kernel)
set_option maxRecDepth 20000 in
theorem gX4_sum_X4_wrong : GoodIn wsX4_sum (wsV RX4 140 RX4 yX4_wrong wsX4_wrong) := goodIn_app (goodIn_of _ (by decide +kernel)) ggX4_sum_X4_wrong
set_option maxRecDepth 20000 in
theorem ggX4_sum_X4_begin : GoodIn wsX4_sum wsX4_begin := goodIn_r _ [20, 21, 22, 36, 37, 38, 39, 40, 41, 42, 43, 44, 45, 46, 47, 48, 49, 50, 51, 52, 53, 54] (by decide +kernel) (by decide +kernel)
set_option maxRecDepth 20000 in
theorem gX4_sum_X4_begin : GoodIn wsX4_sum (wsV RX4 120 RX4 yX4_begin wsX4_begin) := goodIn_app (goodIn_of _ (by decide +kernel)) ggX4_sum_X4_begin
set_option maxRecDepth 20000 in
theorem ggX4_sum_X4_works : GoodIn wsX4_sum wsX4_works := goodIn_r _ [26, 4, 27, 28, 29, 30, 31, 32, 33, 7, 34, 35, 36, 37, 38, 39, 40, 41, 42, 43, 44, 45, 46, 47, 48, 49, 50, 51, 52, 53, 54] (by decide +kernel) (by decide +kernel)
set_option maxRecDepth 20000 in
theorem gX4_sum_X4_works : GoodIn wsX4_sum (wsV RX4 123 RX4 yX4_works wsX4_works) := goodIn_app (goodIn_of _ (by decide +kernel)) ggX4_sum_X4_works
theorem dX4_sum_0 : decode cX4_sum 0 = .ok (.iload_n 1, 1) := by decide +kernel
theorem dX4_sum_1 : decode cX4_sum 1 = .ok (.invokestatic 137, 3) := by decide +kernel
theorem dX4_sum_4 : decode cX4_sum 4 = .ok (.ifCond .ne 7, 3) := by decide +kernel
theorem dX4_sum_7 : decode cX4_sum 7 = .ok (.ldc2_w 171, 3) := by decide +kernel
theorem dX4_sum_10 : decode cX4_sum 10 = .ok (.lreturn, 1) := by decide +kernel
theorem dX4_sum_11 : decode cX4_sum 11 = .ok (.lconst 0, 1) := by decide +kernel
theorem dX4_sum_12 : decode cX4_sum 12 = .ok (.lstore_n 2, 1) := by decide +kernel
theorem dX4_sum_13 : decode cX4_sum 13 = .ok (.iconst 0, 1) := by decide +kernel
theorem dX4_sum_14 : decode cX4_sum 14 = .ok (.istore 4, 2) := by decide +kernel
theorem dX4_sum_16 : decode cX4_sum 16 = .ok (.iload 4, 2) := by decide +kernel
theorem dX4_sum_18 : decode cX4_sum 18 = .ok (.aload_n 0, 1) := by decide +kernel
theorem dX4_sum_19 : decode cX4_sum 19 = .ok (.getfield 60, 3) := by decide +kernel
theorem dX4_sum_22 : decode cX4_sum 22 = .ok (.iload_n 1, 1) := by decide +kernel
theorem dX4_sum_23 : decode cX4_sum 23 = .ok (.iaload, 1) := by decide +kernel
theorem dX4_sum_24 : decode cX4_sum 24 = .ok (.if_icmp .ge 97, 3) := by decide +kernel
theorem dX4_sum_27 : decode cX4_sum 27 = .ok (.bipush 120, 2) := by decide +kernel
theorem dX4_sum_29 : decode cX4_sum 29 = .ok (.iload_n 1, 1) := by decide +kernel
theorem dX4_sum_30 : decode cX4_sum 30 = .ok (.imul, 1) := by decide +kernel
theorem dX4_sum_31 : decode cX4_sum 31 = .ok (.iconst 4, 1) := by decide +kernel
theorem dX4_sum_32 : decode cX4_sum 32 = .ok (.iload 4, 2) := by decide +kernel
theorem dX4_sum_34 : decode cX4_sum 34 = .ok (.imul, 1) := by decide +kernel
theorem dX4_sum_35 : decode cX4_sum 35 = .ok (.iadd, 1) := by decide +kernel
theorem dX4_sum_36 : decode cX4_sum 36 = .ok (.istore 5, 2) := by decide +kernel
theorem dX4_sum_38 : decode cX4_sum 38 = .ok (.aload_n 0, 1) := by decide +kernel
theorem dX4_sum_39 : decode cX4_sum 39 = .ok (.iload_n 1, 1) := by decide +kernel
theorem dX4_sum_40 : decode cX4_sum 40 = .ok (.aload_n 0, 1) := by decide +kernel
theorem dX4_sum_41 : decode cX4_sum 41 = .ok (.getfield 63, 3) := by decide +kernel
theorem dX4_sum_44 : decode cX4_sum 44 = .ok (.iload 5, 2) := by decide +kernel
theorem dX4_sum_46 : decode cX4_sum 46 = .ok (.invokevirtual 140, 3) := by decide +kernel
theorem dX4_sum_49 : decode cX4_sum 49 = .ok (.bipush (-4), 2) := by decide +kernel
theorem dX4_sum_51 : decode cX4_sum 51 = .ok (.if_icmp .ne 64, 3) := by decide +kernel
theorem dX4_sum_54 : decode cX4_sum 54 = .ok (.aload_n 0, 1) := by decide +kernel
theorem dX4_sum_55 : decode cX4_sum 55 = .ok (.iload_n 1, 1) := by decide +kernel
theorem dX4_sum_56 : decode cX4_sum 56 = .ok (.invokevirtual 120, 3) := by decide +kernel
theorem dX4_sum_59 : decode cX4_sum 59 = .ok (.istore 6, 2) := by decide +kernel
theorem dX4_sum_61 : decode cX4_sum 61 = .ok (.iload 6, 2) := by decide +kernel
theorem dX4_sum_63 : decode cX4_sum 63 = .ok (.ifCond .eq 7, 3) := by decide +kernel
theorem dX4_sum_66 : decode cX4_sum 66 = .ok (.iload 6, 2) := by decide +kernel
theorem dX4_sum_68 : decode cX4_sum 68 = .ok (.i2l, 1) := by decide +kernel
theorem dX4_sum_69 : decode cX4_sum 69 = .ok (.lreturn, 1) := by decide +kernel
theorem dX4_sum_70 : decode cX4_sum 70 = .ok (.lload_n 2, 1) := by decide +kernel
theorem dX4_sum_71 : decode cX4_sum 71 = .ok (.aload_n 0, 1) := by decide +kernel
theorem dX4_sum_72 : decode cX4_sum 72 = .ok (.iload_n 1, 1) := by decide +kernel
theorem dX4_sum_73 : decode cX4_sum 73 = .ok (.aload_n 0, 1) := by decide +kernel
theorem dX4_sum_74 : decode cX4_sum 74 = .ok (.getfield 63, 3) := by decide +kernel
theorem dX4_sum_77 : decode cX4_sum 77 = .ok (.iload 5, 2) := by decide +kernel
theorem dX4_sum_79 : decode cX4_sum 79 = .ok (.iaload, 1) := by decide +kernel
theorem dX4_sum_80 : decode cX4_sum 80 = .ok (.aload_n 0, 1) := by decide +kernel
theorem dX4_sum_81 : decode cX4_sum 81 = .ok (.getfield 63, 3) := by decide +kernel
theorem dX4_sum_84 : decode cX4_sum 84 = .ok (.iload 5, 2) := by decide +kernel
theorem dX4_sum_86 : decode cX4_sum 86 = .ok (.iload_n 1, 1) := by decide +kernel
theorem dX4_sum_87 : decode cX4_sum 87 = .ok (.ifCond .ne 7, 3) := by decide +kernel
theorem dX4_sum_90 : decode cX4_sum 90 = .ok (.iconst 1, 1) := by decide +kernel
theorem dX4_sum_91 : decode cX4_sum 91 = .ok (.goto 4, 3) := by decide +kernel
theorem dX4_sum_94 : decode cX4_sum 94 = .ok (.iconst 3, 1) := by decide +kernel
theorem dX4_sum_95 : decode cX4_sum 95 = .ok (.iadd, 1) := by decide +kernel
theorem dX4_sum_96 : decode cX4_sum 96 = .ok (.iaload, 1) := by decide +kernel
theorem dX4_sum_97 : decode cX4_sum 97 = .ok (.i2l, 1) := by decide +kernel
theorem dX4_sum_98 : decode cX4_sum 98 = .ok (.invokevirtual 123, 3) := by decide +kernel
theorem dX4_sum_101 : decode cX4_sum 101 = .ok (.iconst 1, 1) := by decide +kernel
theorem dX4_sum_102 : decode cX4_sum 102 = .ok (.if_icmp .ne 10, 3) := by decide +kernel
theorem dX4_sum_105 : decode cX4_sum 105 = .ok (.aload_n 0, 1) := by decide +kernel
theorem dX4_sum_106 : decode cX4_sum 106 = .ok (.getfield 101, 3) := by decide +kernel
theorem dX4_sum_109 : decode cX4_sum 109 = .ok (.goto 4, 3) := by decide +kernel
theorem dX4_sum_112 : decode cX4_sum 112 = .ok (.lconst 0, 1) := by decide +kernel
theorem dX4_sum_113 : decode cX4_sum 113 = .ok (.ladd, 1) := by decide +kernel
theorem dX4_sum_114 : decode cX4_sum 114 = .ok (.lstore_n 2, 1) := by decide +kernel
theorem dX4_sum_115 : decode cX4_sum 115 = .ok (.iinc 4 1, 3) := by decide +kernel
theorem dX4_sum_118 : decode cX4_sum 118 = .ok (.goto (-102), 3) := by decide +kernel
theorem dX4_sum_121 : decode cX4_sum 121 = .ok (.lload_n 2, 1) := by decide +kernel
theorem dX4_sum_122 : decode cX4_sum 122 = .ok (.lreturn, 1) := by decide +kernel
