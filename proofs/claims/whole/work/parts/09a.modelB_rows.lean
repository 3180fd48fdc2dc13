set_option maxRecDepth 20000 in
theorem ggX4_code_X4_isKind : GoodIn wsX4_code wsX4_isKind := goodIn_r _ [6, 7, 8, 5, 9] (by decide +kernel) (by decide +kernel)
set_option maxRecDepth 20000 in
theorem gX4_code_X4_isKind : GoodIn wsX4_code (va_wsS RX4 89 yX4_isKind wsX4_isKind) := goodIn_app (goodIn_of _ (by decide +kernel)) ggX4_code_X4_isKind
set_option maxRecDepth 20000 in
theorem ggX4_code_X4_nameOf : GoodIn wsX4_code wsX4_nameOf := goodIn_r _ [13, 14, 15, 16, 17, 18, 19, 20, 21, 22, 23, 24, 25, 26, 27, 28, 29, 30, 31, 32, 33, 34] (by decide +kernel) (by decide +kernel)
set_option maxRecDepth 20000 in
theorem gX4_code_X4_nameOf : GoodIn wsX4_code (wsV RX4 93 RX4 yX4_nameOf wsX4_nameOf) := goodIn_app (goodIn_of _ (by decide +kernel)) ggX4_code_X4_nameOf
theorem dX4_code_0 : decode cX4_code 0 = .ok (.iload_n 1, 1) := by decide +kernel
theorem dX4_code_1 : decode cX4_code 1 = .ok (.invokestatic 89, 3) := by decide +kernel
theorem dX4_code_4 : decode cX4_code 4 = .ok (.ifCond .ne 5, 3) := by decide +kernel
theorem dX4_code_7 : decode cX4_code 7 = .ok (.iconst (-1), 1) := by decide +kernel
theorem dX4_code_8 : decode cX4_code 8 = .ok (.ireturn, 1) := by decide +kernel
theorem dX4_code_9 : decode cX4_code 9 = .ok (.iconst 0, 1) := by decide +kernel
theorem dX4_code_10 : decode cX4_code 10 = .ok (.istore 4, 2) := by decide +kernel
theorem dX4_code_12 : decode cX4_code 12 = .ok (.iload 4, 2) := by decide +kernel
theorem dX4_code_14 : decode cX4_code 14 = .ok (.aload_n 0, 1) := by decide +kernel
theorem dX4_code_15 : decode cX4_code 15 = .ok (.getfield 7, 3) := by decide +kernel
theorem dX4_code_18 : decode cX4_code 18 = .ok (.iload_n 1, 1) := by decide +kernel
theorem dX4_code_19 : decode cX4_code 19 = .ok (.iaload, 1) := by decide +kernel
theorem dX4_code_20 : decode cX4_code 20 = .ok (.if_icmp .ge 34, 3) := by decide +kernel
theorem dX4_code_23 : decode cX4_code 23 = .ok (.aload_n 0, 1) := by decide +kernel
theorem dX4_code_24 : decode cX4_code 24 = .ok (.iload_n 1, 1) := by decide +kernel
theorem dX4_code_25 : decode cX4_code 25 = .ok (.iload 4, 2) := by decide +kernel
theorem dX4_code_27 : decode cX4_code 27 = .ok (.invokevirtual 93, 3) := by decide +kernel
theorem dX4_code_30 : decode cX4_code 30 = .ok (.lload_n 2, 1) := by decide +kernel
theorem dX4_code_31 : decode cX4_code 31 = .ok (.lcmp, 1) := by decide +kernel
theorem dX4_code_32 : decode cX4_code 32 = .ok (.ifCond .ne 16, 3) := by decide +kernel
theorem dX4_code_35 : decode cX4_code 35 = .ok (.aload_n 0, 1) := by decide +kernel
theorem dX4_code_36 : decode cX4_code 36 = .ok (.getfield 41, 3) := by decide +kernel
theorem dX4_code_39 : decode cX4_code 39 = .ok (.bipush 26, 2) := by decide +kernel
theorem dX4_code_41 : decode cX4_code 41 = .ok (.iload_n 1, 1) := by decide +kernel
theorem dX4_code_42 : decode cX4_code 42 = .ok (.imul, 1) := by decide +kernel
theorem dX4_code_43 : decode cX4_code 43 = .ok (.iload 4, 2) := by decide +kernel
theorem dX4_code_45 : decode cX4_code 45 = .ok (.iadd, 1) := by decide +kernel
theorem dX4_code_46 : decode cX4_code 46 = .ok (.iaload, 1) := by decide +kernel
theorem dX4_code_47 : decode cX4_code 47 = .ok (.ireturn, 1) := by decide +kernel
theorem dX4_code_48 : decode cX4_code 48 = .ok (.iinc 4 1, 3) := by decide +kernel
theorem dX4_code_51 : decode cX4_code 51 = .ok (.goto (-39), 3) := by decide +kernel
theorem dX4_code_54 : decode cX4_code 54 = .ok (.bipush (-4), 2) := by decide +kernel
theorem dX4_code_56 : decode cX4_code 56 = .ok (.ireturn, 1) := by decide +kernel
set_option maxRecDepth 20000 in
theorem ggX4_name_X4_isKind : GoodIn wsX4_name wsX4_isKind := goodIn_r _ [4, 5, 6, 3, 7] (by decide +kernel) (by decide +kernel)
set_option maxRecDepth 20000 in
theorem gX4_name_X4_isKind : GoodIn wsX4_name (va_wsS RX4 89 yX4_isKind wsX4_isKind) := goodIn_app (goodIn_of _ (by decide +kernel)) ggX4_name_X4_isKind
set_option maxRecDepth 20000 in
theorem ggX4_name_X4_isCode : GoodIn wsX4_name wsX4_isCode := goodIn_r _ [11, 12, 5, 6, 3, 7, 24, 25, 26, 27, 28, 29, 30, 31, 32, 33, 34, 35, 36, 37, 38, 39, 40, 41, 42] (by decide +kernel) (by decide +kernel)
set_option maxRecDepth 20000 in
theorem gX4_name_X4_isCode : GoodIn wsX4_name (wsV RX4 83 RX4 yX4_isCode wsX4_isCode) := goodIn_app (goodIn_of _ (by decide +kernel)) ggX4_name_X4_isCode
set_option maxRecDepth 20000 in
theorem ggX4_name_X4_constant : GoodIn wsX4_name wsX4_constant := goodIn_r _ [16, 17, 8, 9, 10, 3, 11, 12, 5, 6, 7, 24, 25, 26, 27, 28, 29, 30, 31, 32, 33, 34, 35, 36, 37, 38, 39, 40, 41, 42] (by decide +kernel) (by decide +kernel)
set_option maxRecDepth 20000 in
theorem gX4_name_X4_constant : GoodIn wsX4_name (wsV RX4 97 RX4 yX4_constant wsX4_constant) := goodIn_app (goodIn_of _ (by decide +kernel)) ggX4_name_X4_constant
set_option maxRecDepth 20000 in
theorem ggX4_name_X4_nameOf : GoodIn wsX4_name wsX4_nameOf := goodIn_r _ [21, 22, 23, 24, 25, 26, 27, 28, 29, 30, 31, 32, 33, 34, 35, 36, 37, 38, 39, 40, 41, 42] (by decide +kernel) (by decide +kernel)
set_option maxRecDepth 20000 in
theorem gX4_name_X4_nameOf : GoodIn wsX4_name (wsV RX4 93 RX4 yX4_nameOf wsX4_nameOf) := goodIn_app (goodIn_of _ (by decide +kernel)) ggX4_name_X4_nameOf
theorem dX4_name_0 : decode cX4_name 0 = .ok (.iload_n 1, 1) := by decide +kernel
theorem dX4_name_1 : decode cX4_name 1 = .ok (.invokestatic 89, 3) := by decide +kernel
theorem dX4_name_4 : decode cX4_name 4 = .ok (.ifCond .eq 26, 3) := by decide +kernel
theorem dX4_name_7 : decode cX4_name 7 = .ok (.aload_n 0, 1) := by decide +kernel
theorem dX4_name_8 : decode cX4_name 8 = .ok (.iload_n 1, 1) := by decide +kernel
theorem dX4_name_9 : decode cX4_name 9 = .ok (.iload_n 2, 1) := by decide +kernel
theorem dX4_name_10 : decode cX4_name 10 = .ok (.invokevirtual 83, 3) := by decide +kernel
theorem dX4_name_13 : decode cX4_name 13 = .ok (.ifCond .eq 17, 3) := by decide +kernel
theorem dX4_name_16 : decode cX4_name 16 = .ok (.aload_n 0, 1) := by decide +kernel
theorem dX4_name_17 : decode cX4_name 17 = .ok (.iload_n 1, 1) := by decide +kernel
theorem dX4_name_18 : decode cX4_name 18 = .ok (.aload_n 0, 1) := by decide +kernel
theorem dX4_name_19 : decode cX4_name 19 = .ok (.iload_n 1, 1) := by decide +kernel
theorem dX4_name_20 : decode cX4_name 20 = .ok (.iload_n 2, 1) := by decide +kernel
theorem dX4_name_21 : decode cX4_name 21 = .ok (.invokevirtual 97, 3) := by decide +kernel
theorem dX4_name_24 : decode cX4_name 24 = .ok (.invokevirtual 93, 3) := by decide +kernel
theorem dX4_name_27 : decode cX4_name 27 = .ok (.goto 4, 3) := by decide +kernel
theorem dX4_name_30 : decode cX4_name 30 = .ok (.lconst 0, 1) := by decide +kernel
theorem dX4_name_31 : decode cX4_name 31 = .ok (.lreturn, 1) := by decide +kernel
set_option maxRecDepth 20000 in
theorem ggX4_swap_X4_isKind : GoodIn wsX4_swap wsX4_isKind := goodIn_r _ [6, 7, 8, 5, 9] (by decide +kernel) (by decide +kernel)
set_option maxRecDepth 20000 in
theorem gX4_swap_X4_isKind : GoodIn wsX4_swap (va_wsS RX4 89 yX4_isKind wsX4_isKind) := goodIn_app (goodIn_of _ (by decide +kernel)) ggX4_swap_X4_isKind
set_option maxRecDepth 20000 in
theorem ggX4_swap_X4_isCode : GoodIn wsX4_swap wsX4_isCode := goodIn_r _ [13, 14, 7, 8, 5, 9, 19, 20, 21, 22, 23, 24, 25, 26, 27, 28, 29, 30, 31, 32, 33, 34, 35, 36, 37] (by decide +kernel) (by decide +kernel)
set_option maxRecDepth 20000 in
theorem gX4_swap_X4_isCode : GoodIn wsX4_swap (wsV RX4 83 RX4 yX4_isCode wsX4_isCode) := goodIn_app (goodIn_of _ (by decide +kernel)) ggX4_swap_X4_isCode
set_option maxRecDepth 20000 in
theorem ggX4_swap_X4_constant : GoodIn wsX4_swap wsX4_constant := goodIn_r _ [18, 2, 10, 11, 12, 5, 13, 14, 7, 8, 9, 19, 20, 21, 22, 23, 24, 25, 26, 27, 28, 29, 30, 31, 32, 33, 34, 35, 36, 37] (by decide +kernel) (by decide +kernel)
set_option maxRecDepth 20000 in
theorem gX4_swap_X4_constant : GoodIn wsX4_swap (wsV RX4 97 RX4 yX4_constant wsX4_constant) := goodIn_app (goodIn_of _ (by decide +kernel)) ggX4_swap_X4_constant
theorem dX4_swap_0 : decode cX4_swap 0 = .ok (.iload_n 1, 1) := by decide +kernel
theorem dX4_swap_1 : decode cX4_swap 1 = .ok (.invokestatic 89, 3) := by decide +kernel
theorem dX4_swap_4 : decode cX4_swap 4 = .ok (.ifCond .eq 21, 3) := by decide +kernel
theorem dX4_swap_7 : decode cX4_swap 7 = .ok (.aload_n 0, 1) := by decide +kernel
theorem dX4_swap_8 : decode cX4_swap 8 = .ok (.iload_n 1, 1) := by decide +kernel
theorem dX4_swap_9 : decode cX4_swap 9 = .ok (.iload_n 2, 1) := by decide +kernel
theorem dX4_swap_10 : decode cX4_swap 10 = .ok (.invokevirtual 83, 3) := by decide +kernel
theorem dX4_swap_13 : decode cX4_swap 13 = .ok (.ifCond .eq 12, 3) := by decide +kernel
theorem dX4_swap_16 : decode cX4_swap 16 = .ok (.aload_n 0, 1) := by decide +kernel
theorem dX4_swap_17 : decode cX4_swap 17 = .ok (.iload_n 1, 1) := by decide +kernel
theorem dX4_swap_18 : decode cX4_swap 18 = .ok (.iload_n 3, 1) := by decide +kernel
theorem dX4_swap_19 : decode cX4_swap 19 = .ok (.invokevirtual 83, 3) := by decide +kernel
theorem dX4_swap_22 : decode cX4_swap 22 = .ok (.ifCond .ne 5, 3) := by decide +kernel
theorem dX4_swap_25 : decode cX4_swap 25 = .ok (.iconst (-1), 1) := by decide +kernel
theorem dX4_swap_26 : decode cX4_swap 26 = .ok (.ireturn, 1) := by decide +kernel
theorem dX4_swap_27 : decode cX4_swap 27 = .ok (.aload_n 0, 1) := by decide +kernel
theorem dX4_swap_28 : decode cX4_swap 28 = .ok (.iload_n 1, 1) := by decide +kernel
theorem dX4_swap_29 : decode cX4_swap 29 = .ok (.iload_n 2, 1) := by decide +kernel
theorem dX4_swap_30 : decode cX4_swap 30 = .ok (.invokevirtual 97, 3) := by decide +kernel
theorem dX4_swap_33 : decode cX4_swap 33 = .ok (.istore 4, 2) := by decide +kernel
theorem dX4_swap_35 : decode cX4_swap 35 = .ok (.aload_n 0, 1) := by decide +kernel
theorem dX4_swap_36 : decode cX4_swap 36 = .ok (.iload_n 1, 1) := by decide +kernel
theorem dX4_swap_37 : decode cX4_swap 37 = .ok (.iload_n 3, 1) := by decide +kernel
theorem dX4_swap_38 : decode cX4_swap 38 = .ok (.invokevirtual 97, 3) := by decide +kernel
theorem dX4_swap_41 : decode cX4_swap 41 = .ok (.istore 5, 2) := by decide +kernel
theorem dX4_swap_43 : decode cX4_swap 43 = .ok (.aload_n 0, 1) := by decide +kernel
theorem dX4_swap_44 : decode cX4_swap 44 = .ok (.getfield 41, 3) := by decide +kernel
theorem dX4_swap_47 : decode cX4_swap 47 = .ok (.bipush 26, 2) := by decide +kernel
theorem dX4_swap_49 : decode cX4_swap 49 = .ok (.iload_n 1, 1) := by decide +kernel
theorem dX4_swap_50 : decode cX4_swap 50 = .ok (.imul, 1) := by decide +kernel
theorem dX4_swap_51 : decode cX4_swap 51 = .ok (.iload 4, 2) := by decide +kernel
theorem dX4_swap_53 : decode cX4_swap 53 = .ok (.iadd, 1) := by decide +kernel
theorem dX4_swap_54 : decode cX4_swap 54 = .ok (.iload_n 3, 1) := by decide +kernel
theorem dX4_swap_55 : decode cX4_swap 55 = .ok (.iastore, 1) := by decide +kernel
theorem dX4_swap_56 : decode cX4_swap 56 = .ok (.aload_n 0, 1) := by decide +kernel
theorem dX4_swap_57 : decode cX4_swap 57 = .ok (.getfield 41, 3) := by decide +kernel
theorem dX4_swap_60 : decode cX4_swap 60 = .ok (.bipush 26, 2) := by decide +kernel
theorem dX4_swap_62 : decode cX4_swap 62 = .ok (.iload_n 1, 1) := by decide +kernel
theorem dX4_swap_63 : decode cX4_swap 63 = .ok (.imul, 1) := by decide +kernel
theorem dX4_swap_64 : decode cX4_swap 64 = .ok (.iload 5, 2) := by decide +kernel
theorem dX4_swap_66 : decode cX4_swap 66 = .ok (.iadd, 1) := by decide +kernel
theorem dX4_swap_67 : decode cX4_swap 67 = .ok (.iload_n 2, 1) := by decide +kernel
theorem dX4_swap_68 : decode cX4_swap 68 = .ok (.iastore, 1) := by decide +kernel
theorem dX4_swap_69 : decode cX4_swap 69 = .ok (.aload_n 0, 1) := by decide +kernel
theorem dX4_swap_70 : decode cX4_swap 70 = .ok (.getfield 44, 3) := by decide +kernel
theorem dX4_swap_73 : decode cX4_swap 73 = .ok (.bipush 26, 2) := by decide +kernel
theorem dX4_swap_75 : decode cX4_swap 75 = .ok (.iload_n 1, 1) := by decide +kernel
theorem dX4_swap_76 : decode cX4_swap 76 = .ok (.imul, 1) := by decide +kernel
theorem dX4_swap_77 : decode cX4_swap 77 = .ok (.iload_n 2, 1) := by decide +kernel
theorem dX4_swap_78 : decode cX4_swap 78 = .ok (.iadd, 1) := by decide +kernel
theorem dX4_swap_79 : decode cX4_swap 79 = .ok (.iload 5, 2) := by decide +kernel
theorem dX4_swap_81 : decode cX4_swap 81 = .ok (.iastore, 1) := by decide +kernel
theorem dX4_swap_82 : decode cX4_swap 82 = .ok (.aload_n 0, 1) := by decide +kernel
theorem dX4_swap_83 : decode cX4_swap 83 = .ok (.getfield 44, 3) := by decide +kernel
theorem dX4_swap_86 : decode cX4_swap 86 = .ok (.bipush 26, 2) := by decide +kernel
theorem dX4_swap_88 : decode cX4_swap 88 = .ok (.iload_n 1, 1) := by decide +kernel
theorem dX4_swap_89 : decode cX4_swap 89 = .ok (.imul, 1) := by decide +kernel
theorem dX4_swap_90 : decode cX4_swap 90 = .ok (.iload_n 3, 1) := by decide +kernel
theorem dX4_swap_91 : decode cX4_swap 91 = .ok (.iadd, 1) := by decide +kernel
theorem dX4_swap_92 : decode cX4_swap 92 = .ok (.iload 4, 2) := by decide +kernel
theorem dX4_swap_94 : decode cX4_swap 94 = .ok (.iastore, 1) := by decide +kernel
theorem dX4_swap_95 : decode cX4_swap 95 = .ok (.iconst 1, 1) := by decide +kernel
theorem dX4_swap_96 : decode cX4_swap 96 = .ok (.ireturn, 1) := by decide +kernel
set_option maxRecDepth 20000 in
theorem ggX4_rule_X4_isKind : GoodIn wsX4_rule wsX4_isKind := goodIn_r _ [6, 7, 8, 5, 9] (by decide +kernel) (by decide +kernel)
set_option maxRecDepth 20000 in
theorem gX4_rule_X4_isKind : GoodIn wsX4_rule (va_wsS RX4 89 yX4_isKind wsX4_isKind) := goodIn_app (goodIn_of _ (by decide +kernel)) ggX4_rule_X4_isKind
set_option maxRecDepth 20000 in
theorem ggX4_rule_X4_isCode : GoodIn wsX4_rule wsX4_isCode := goodIn_r _ [13, 14, 7, 8, 5, 9, 39, 40, 41, 42, 43, 44, 45, 46, 47, 48, 49, 50, 51, 52, 53, 54, 55, 56, 57] (by decide +kernel) (by decide +kernel)
set_option maxRecDepth 20000 in
theorem gX4_rule_X4_isCode : GoodIn wsX4_rule (wsV RX4 83 RX4 yX4_isCode wsX4_isCode) := goodIn_app (goodIn_of _ (by decide +kernel)) ggX4_rule_X4_isCode
set_option maxRecDepth 20000 in
theorem ggX4_rule_X4_begin : GoodIn wsX4_rule wsX4_begin := goodIn_r _ [18, 19, 20, 39, 40, 41, 42, 43, 44, 45, 46, 47, 48, 49, 50, 51, 52, 53, 54, 55, 56, 57] (by decide +kernel) (by decide +kernel)
set_option maxRecDepth 20000 in
theorem gX4_rule_X4_begin : GoodIn wsX4_rule (wsV RX4 120 RX4 yX4_begin wsX4_begin) := goodIn_app (goodIn_of _ (by decide +kernel)) ggX4_rule_X4_begin
set_option maxRecDepth 20000 in
theorem ggX4_rule_X4_constant : GoodIn wsX4_rule wsX4_constant := goodIn_r _ [24, 25, 10, 11, 12, 5, 13, 14, 7, 8, 9, 39, 40, 41, 42, 43, 44, 45, 46, 47, 48, 49, 50, 51, 52, 53, 54, 55, 56, 57] (by decide +kernel) (by decide +kernel)
set_option maxRecDepth 20000 in
theorem gX4_rule_X4_constant : GoodIn wsX4_rule (wsV RX4 97 RX4 yX4_constant wsX4_constant) := goodIn_app (goodIn_of _ (by decide +kernel)) ggX4_rule_X4_constant
set_option maxRecDepth 20000 in
theorem ggX4_rule_X4_works : GoodIn wsX4_rule wsX4_works := goodIn_r _ [29, 1, 30, 31, 32, 33, 34, 35, 36, 5, 37, 38, 39, 40, 41, 42, 43, 44, 45, 46, 47, 48, 49, 50, 51, 52, 53, 54, 55, 56, 57] (by decide +kernel) (by decide +kernel)
set_option maxRecDepth 20000 in
theorem gX4_rule_X4_works : GoodIn wsX4_rule (wsV RX4 123 RX4 yX4_works wsX4_works) := goodIn_app (goodIn_of _ (by decide +kernel)) ggX4_rule_X4_works
theorem dX4_rule_0 : decode cX4_rule 0 = .ok (.iload_n 1, 1) := by decide +kernel
theorem dX4_rule_1 : decode cX4_rule 1 = .ok (.invokestatic 89, 3) := by decide +kernel
theorem dX4_rule_4 : decode cX4_rule 4 = .ok (.ifCond .eq 12, 3) := by decide +kernel
theorem dX4_rule_7 : decode cX4_rule 7 = .ok (.aload_n 0, 1) := by decide +kernel
theorem dX4_rule_8 : decode cX4_rule 8 = .ok (.iload_n 1, 1) := by decide +kernel
theorem dX4_rule_9 : decode cX4_rule 9 = .ok (.iload_n 2, 1) := by decide +kernel
theorem dX4_rule_10 : decode cX4_rule 10 = .ok (.invokevirtual 83, 3) := by decide +kernel
theorem dX4_rule_13 : decode cX4_rule 13 = .ok (.ifCond .ne 5, 3) := by decide +kernel
theorem dX4_rule_16 : decode cX4_rule 16 = .ok (.iconst (-1), 1) := by decide +kernel
theorem dX4_rule_17 : decode cX4_rule 17 = .ok (.ireturn, 1) := by decide +kernel
theorem dX4_rule_18 : decode cX4_rule 18 = .ok (.aload_n 0, 1) := by decide +kernel
theorem dX4_rule_19 : decode cX4_rule 19 = .ok (.iload_n 1, 1) := by decide +kernel
theorem dX4_rule_20 : decode cX4_rule 20 = .ok (.invokevirtual 120, 3) := by decide +kernel
theorem dX4_rule_23 : decode cX4_rule 23 = .ok (.istore 5, 2) := by decide +kernel
theorem dX4_rule_25 : decode cX4_rule 25 = .ok (.iload 5, 2) := by decide +kernel
theorem dX4_rule_27 : decode cX4_rule 27 = .ok (.ifCond .eq 6, 3) := by decide +kernel
theorem dX4_rule_30 : decode cX4_rule 30 = .ok (.iload 5, 2) := by decide +kernel
theorem dX4_rule_32 : decode cX4_rule 32 = .ok (.ireturn, 1) := by decide +kernel
theorem dX4_rule_33 : decode cX4_rule 33 = .ok (.aload_n 0, 1) := by decide +kernel
theorem dX4_rule_34 : decode cX4_rule 34 = .ok (.iload_n 1, 1) := by decide +kernel
theorem dX4_rule_35 : decode cX4_rule 35 = .ok (.aload_n 0, 1) := by decide +kernel
theorem dX4_rule_36 : decode cX4_rule 36 = .ok (.iload_n 1, 1) := by decide +kernel
theorem dX4_rule_37 : decode cX4_rule 37 = .ok (.iload_n 2, 1) := by decide +kernel
theorem dX4_rule_38 : decode cX4_rule 38 = .ok (.invokevirtual 97, 3) := by decide +kernel
theorem dX4_rule_41 : decode cX4_rule 41 = .ok (.lload_n 3, 1) := by decide +kernel
theorem dX4_rule_42 : decode cX4_rule 42 = .ok (.invokevirtual 123, 3) := by decide +kernel
theorem dX4_rule_45 : decode cX4_rule 45 = .ok (.istore 6, 2) := by decide +kernel
theorem dX4_rule_47 : decode cX4_rule 47 = .ok (.aload_n 0, 1) := by decide +kernel
theorem dX4_rule_48 : decode cX4_rule 48 = .ok (.iload 6, 2) := by decide +kernel
theorem dX4_rule_50 : decode cX4_rule 50 = .ok (.iconst 1, 1) := by decide +kernel
theorem dX4_rule_51 : decode cX4_rule 51 = .ok (.if_icmp .ne 10, 3) := by decide +kernel
theorem dX4_rule_54 : decode cX4_rule 54 = .ok (.aload_n 0, 1) := by decide +kernel
theorem dX4_rule_55 : decode cX4_rule 55 = .ok (.getfield 101, 3) := by decide +kernel
theorem dX4_rule_58 : decode cX4_rule 58 = .ok (.goto 7, 3) := by decide +kernel
theorem dX4_rule_61 : decode cX4_rule 61 = .ok (.aload_n 0, 1) := by decide +kernel
theorem dX4_rule_62 : decode cX4_rule 62 = .ok (.getfield 127, 3) := by decide +kernel
theorem dX4_rule_65 : decode cX4_rule 65 = .ok (.putfield 127, 3) := by decide +kernel
theorem dX4_rule_68 : decode cX4_rule 68 = .ok (.iload 6, 2) := by decide +kernel
theorem dX4_rule_70 : decode cX4_rule 70 = .ok (.ireturn, 1) := by decide +kernel
theorem dX4_result_0 : decode cX4_result 0 = .ok (.aload_n 0, 1) := by decide +kernel
theorem dX4_result_1 : decode cX4_result 1 = .ok (.getfield 127, 3) := by decide +kernel
theorem dX4_result_4 : decode cX4_result 4 = .ok (.lreturn, 1) := by decide +kernel
set_option maxRecDepth 20000 in
theorem ggX4_fail_X4_isKind : GoodIn wsX4_fail wsX4_isKind := goodIn_r _ [6, 7, 8, 5, 9] (by decide +kernel) (by decide +kernel)
set_option maxRecDepth 20000 in
theorem gX4_fail_X4_isKind : GoodIn wsX4_fail (va_wsS RX4 89 yX4_isKind wsX4_isKind) := goodIn_app (goodIn_of _ (by decide +kernel)) ggX4_fail_X4_isKind
theorem dX4_fail_0 : decode cX4_fail 0 = .ok (.iload_n 1, 1) := by decide +kernel
theorem dX4_fail_1 : decode cX4_fail 1 = .ok (.invokestatic 89, 3) := by decide +kernel
theorem dX4_fail_4 : decode cX4_fail 4 = .ok (.ifCond .ne 5, 3) := by decide +kernel
theorem dX4_fail_7 : decode cX4_fail 7 = .ok (.iconst (-1), 1) := by decide +kernel
theorem dX4_fail_8 : decode cX4_fail 8 = .ok (.ireturn, 1) := by decide +kernel
theorem dX4_fail_9 : decode cX4_fail 9 = .ok (.aload_n 0, 1) := by decide +kernel
theorem dX4_fail_10 : decode cX4_fail 10 = .ok (.getfield 47, 3) := by decide +kernel
theorem dX4_fail_13 : decode cX4_fail 13 = .ok (.iload_n 1, 1) := by decide +kernel
theorem dX4_fail_14 : decode cX4_fail 14 = .ok (.iaload, 1) := by decide +kernel
theorem dX4_fail_15 : decode cX4_fail 15 = .ok (.ifCond .eq 6, 3) := by decide +kernel
theorem dX4_fail_18 : decode cX4_fail 18 = .ok (.bipush (-3), 2) := by decide +kernel
theorem dX4_fail_20 : decode cX4_fail 20 = .ok (.ireturn, 1) := by decide +kernel
theorem dX4_fail_21 : decode cX4_fail 21 = .ok (.aload_n 0, 1) := by decide +kernel
theorem dX4_fail_22 : decode cX4_fail 22 = .ok (.getfield 50, 3) := by decide +kernel
theorem dX4_fail_25 : decode cX4_fail 25 = .ok (.iload_n 1, 1) := by decide +kernel
theorem dX4_fail_26 : decode cX4_fail 26 = .ok (.baload, 1) := by decide +kernel
theorem dX4_fail_27 : decode cX4_fail 27 = .ok (.ifCond .eq 7, 3) := by decide +kernel
theorem dX4_fail_30 : decode cX4_fail 30 = .ok (.iconst 1, 1) := by decide +kernel
theorem dX4_fail_31 : decode cX4_fail 31 = .ok (.goto 4, 3) := by decide +kernel
theorem dX4_fail_34 : decode cX4_fail 34 = .ok (.iconst 0, 1) := by decide +kernel
theorem dX4_fail_35 : decode cX4_fail 35 = .ok (.istore_n 3, 1) := by decide +kernel
theorem dX4_fail_36 : decode cX4_fail 36 = .ok (.aload_n 0, 1) := by decide +kernel
theorem dX4_fail_37 : decode cX4_fail 37 = .ok (.getfield 50, 3) := by decide +kernel
theorem dX4_fail_40 : decode cX4_fail 40 = .ok (.iload_n 1, 1) := by decide +kernel
theorem dX4_fail_41 : decode cX4_fail 41 = .ok (.iload_n 2, 1) := by decide +kernel
theorem dX4_fail_42 : decode cX4_fail 42 = .ok (.bastore, 1) := by decide +kernel
theorem dX4_fail_43 : decode cX4_fail 43 = .ok (.iload_n 3, 1) := by decide +kernel
theorem dX4_fail_44 : decode cX4_fail 44 = .ok (.ireturn, 1) := by decide +kernel
set_option maxRecDepth 20000 in
theorem ggX4_started_X4_isKind : GoodIn wsX4_started wsX4_isKind := goodIn_r _ [5, 6, 7, 4, 8] (by decide +kernel) (by decide +kernel)
set_option maxRecDepth 20000 in
theorem gX4_started_X4_isKind : GoodIn wsX4_started (va_wsS RX4 89 yX4_isKind wsX4_isKind) := goodIn_app (goodIn_of _ (by decide +kernel)) ggX4_started_X4_isKind
theorem dX4_started_0 : decode cX4_started 0 = .ok (.iload_n 1, 1) := by decide +kernel
theorem dX4_started_1 : decode cX4_started 1 = .ok (.invokestatic 89, 3) := by decide +kernel
theorem dX4_started_4 : decode cX4_started 4 = .ok (.ifCond .eq 12, 3) := by decide +kernel
theorem dX4_started_7 : decode cX4_started 7 = .ok (.aload_n 0, 1) := by decide +kernel
theorem dX4_started_8 : decode cX4_started 8 = .ok (.getfield 47, 3) := by decide +kernel
theorem dX4_started_11 : decode cX4_started 11 = .ok (.iload_n 1, 1) := by decide +kernel
theorem dX4_started_12 : decode cX4_started 12 = .ok (.iaload, 1) := by decide +kernel
theorem dX4_started_13 : decode cX4_started 13 = .ok (.goto 4, 3) := by decide +kernel
theorem dX4_started_16 : decode cX4_started 16 = .ok (.iconst (-1), 1) := by decide +kernel
theorem dX4_started_17 : decode cX4_started 17 = .ok (.ireturn, 1) := by decide +kernel
set_option maxRecDepth 20000 in
theorem ggX4_clear_X4_isSet : GoodIn wsX4_clear wsX4_isSet := goodIn_r _ [6, 7, 8, 5, 9] (by decide +kernel) (by decide +kernel)
set_option maxRecDepth 20000 in
theorem gX4_clear_X4_isSet : GoodIn wsX4_clear (va_wsS RX4 130 yX4_isSet wsX4_isSet) := goodIn_app (goodIn_of _ (by decide +kernel)) ggX4_clear_X4_isSet
set_option maxRecDepth 20000 in
theorem ggX4_clear_X4_isKind : GoodIn wsX4_clear wsX4_isKind := goodIn_r _ [12, 7, 8, 5, 9] (by decide +kernel) (by decide +kernel)
set_option maxRecDepth 20000 in
theorem gX4_clear_X4_isKind : GoodIn wsX4_clear (va_wsS RX4 89 yX4_isKind wsX4_isKind) := goodIn_app (goodIn_of _ (by decide +kernel)) ggX4_clear_X4_isKind
set_option maxRecDepth 20000 in
theorem ggX4_clear_X4_size : GoodIn wsX4_clear wsX4_size := goodIn_r _ [15] (by decide +kernel) (by decide +kernel)
set_option maxRecDepth 20000 in
theorem gX4_clear_X4_size : GoodIn wsX4_clear (va_wsS RX4 133 yX4_size wsX4_size) := goodIn_app (goodIn_of _ (by decide +kernel)) ggX4_clear_X4_size
theorem dX4_clear_0 : decode cX4_clear 0 = .ok (.iload_n 1, 1) := by decide +kernel
theorem dX4_clear_1 : decode cX4_clear 1 = .ok (.invokestatic 130, 3) := by decide +kernel
theorem dX4_clear_4 : decode cX4_clear 4 = .ok (.ifCond .eq 10, 3) := by decide +kernel
theorem dX4_clear_7 : decode cX4_clear 7 = .ok (.iload_n 2, 1) := by decide +kernel
theorem dX4_clear_8 : decode cX4_clear 8 = .ok (.invokestatic 89, 3) := by decide +kernel
theorem dX4_clear_11 : decode cX4_clear 11 = .ok (.ifCond .ne 5, 3) := by decide +kernel
theorem dX4_clear_14 : decode cX4_clear 14 = .ok (.iconst (-1), 1) := by decide +kernel
theorem dX4_clear_15 : decode cX4_clear 15 = .ok (.ireturn, 1) := by decide +kernel
theorem dX4_clear_16 : decode cX4_clear 16 = .ok (.aload_n 0, 1) := by decide +kernel
theorem dX4_clear_17 : decode cX4_clear 17 = .ok (.getfield 57, 3) := by decide +kernel
theorem dX4_clear_20 : decode cX4_clear 20 = .ok (.iload_n 1, 1) := by decide +kernel
theorem dX4_clear_21 : decode cX4_clear 21 = .ok (.iaload, 1) := by decide +kernel
theorem dX4_clear_22 : decode cX4_clear 22 = .ok (.invokestatic 133, 3) := by decide +kernel
theorem dX4_clear_25 : decode cX4_clear 25 = .ok (.istore_n 3, 1) := by decide +kernel
theorem dX4_clear_26 : decode cX4_clear 26 = .ok (.aload_n 0, 1) := by decide +kernel
theorem dX4_clear_27 : decode cX4_clear 27 = .ok (.getfield 54, 3) := by decide +kernel
theorem dX4_clear_30 : decode cX4_clear 30 = .ok (.iload_n 1, 1) := by decide +kernel
theorem dX4_clear_31 : decode cX4_clear 31 = .ok (.iload_n 2, 1) := by decide +kernel
theorem dX4_clear_32 : decode cX4_clear 32 = .ok (.iastore, 1) := by decide +kernel
theorem dX4_clear_33 : decode cX4_clear 33 = .ok (.aload_n 0, 1) := by decide +kernel
theorem dX4_clear_34 : decode cX4_clear 34 = .ok (.getfield 57, 3) := by decide +kernel
theorem dX4_clear_37 : decode cX4_clear 37 = .ok (.iload_n 1, 1) := by decide +kernel
theorem dX4_clear_38 : decode cX4_clear 38 = .ok (.iconst 0, 1) := by decide +kernel
theorem dX4_clear_39 : decode cX4_clear 39 = .ok (.iastore, 1) := by decide +kernel
theorem dX4_clear_40 : decode cX4_clear 40 = .ok (.iload_n 3, 1) := by decide +kernel
theorem dX4_clear_41 : decode cX4_clear 41 = .ok (.ireturn, 1) := by decide +kernel
set_option maxRecDepth 20000 in
theorem ggX4_put_X4_isSet : GoodIn wsX4_put wsX4_isSet := goodIn_r _ [6, 7, 8, 5, 9] (by decide +kernel) (by decide +kernel)
set_option maxRecDepth 20000 in
theorem gX4_put_X4_isSet : GoodIn wsX4_put (va_wsS RX4 130 yX4_isSet wsX4_isSet) := goodIn_app (goodIn_of _ (by decide +kernel)) ggX4_put_X4_isSet
set_option maxRecDepth 20000 in
theorem ggX4_put_X4_isCode : GoodIn wsX4_put wsX4_isCode := goodIn_r _ [13, 14, 7, 8, 5, 9, 20, 21, 22, 23, 24, 25, 26, 27, 28, 29, 30, 31, 32, 33, 34, 35, 36, 37, 38] (by decide +kernel) (by decide +kernel)
set_option maxRecDepth 20000 in
theorem gX4_put_X4_isCode : GoodIn wsX4_put (wsV RX4 83 RX4 yX4_isCode wsX4_isCode) := goodIn_app (goodIn_of _ (by decide +kernel)) ggX4_put_X4_isCode
set_option maxRecDepth 20000 in
theorem ggX4_put_X4_constant : GoodIn wsX4_put wsX4_constant := goodIn_r _ [18, 19, 10, 11, 12, 5, 13, 14, 7, 8, 9, 20, 21, 22, 23, 24, 25, 26, 27, 28, 29, 30, 31, 32, 33, 34, 35, 36, 37, 38] (by decide +kernel) (by decide +kernel)
set_option maxRecDepth 20000 in
theorem gX4_put_X4_constant : GoodIn wsX4_put (wsV RX4 97 RX4 yX4_constant wsX4_constant) := goodIn_app (goodIn_of _ (by decide +kernel)) ggX4_put_X4_constant
theorem dX4_put_0 : decode cX4_put 0 = .ok (.iload_n 1, 1) := by decide +kernel
theorem dX4_put_1 : decode cX4_put 1 = .ok (.invokestatic 130, 3) := by decide +kernel
theorem dX4_put_4 : decode cX4_put 4 = .ok (.ifCond .eq 17, 3) := by decide +kernel
theorem dX4_put_7 : decode cX4_put 7 = .ok (.aload_n 0, 1) := by decide +kernel
theorem dX4_put_8 : decode cX4_put 8 = .ok (.aload_n 0, 1) := by decide +kernel
theorem dX4_put_9 : decode cX4_put 9 = .ok (.getfield 54, 3) := by decide +kernel
theorem dX4_put_12 : decode cX4_put 12 = .ok (.iload_n 1, 1) := by decide +kernel
theorem dX4_put_13 : decode cX4_put 13 = .ok (.iaload, 1) := by decide +kernel
theorem dX4_put_14 : decode cX4_put 14 = .ok (.iload_n 2, 1) := by decide +kernel
theorem dX4_put_15 : decode cX4_put 15 = .ok (.invokevirtual 83, 3) := by decide +kernel
theorem dX4_put_18 : decode cX4_put 18 = .ok (.ifCond .ne 5, 3) := by decide +kernel
theorem dX4_put_21 : decode cX4_put 21 = .ok (.iconst (-1), 1) := by decide +kernel
theorem dX4_put_22 : decode cX4_put 22 = .ok (.ireturn, 1) := by decide +kernel
theorem dX4_put_23 : decode cX4_put 23 = .ok (.iconst 1, 1) := by decide +kernel
theorem dX4_put_24 : decode cX4_put 24 = .ok (.aload_n 0, 1) := by decide +kernel
theorem dX4_put_25 : decode cX4_put 25 = .ok (.aload_n 0, 1) := by decide +kernel
theorem dX4_put_26 : decode cX4_put 26 = .ok (.getfield 54, 3) := by decide +kernel
theorem dX4_put_29 : decode cX4_put 29 = .ok (.iload_n 1, 1) := by decide +kernel
theorem dX4_put_30 : decode cX4_put 30 = .ok (.iaload, 1) := by decide +kernel
theorem dX4_put_31 : decode cX4_put 31 = .ok (.iload_n 2, 1) := by decide +kernel
theorem dX4_put_32 : decode cX4_put 32 = .ok (.invokevirtual 97, 3) := by decide +kernel
theorem dX4_put_35 : decode cX4_put 35 = .ok (.ishl, 1) := by decide +kernel
theorem dX4_put_36 : decode cX4_put 36 = .ok (.istore 4, 2) := by decide +kernel
theorem dX4_put_38 : decode cX4_put 38 = .ok (.aload_n 0, 1) := by decide +kernel
theorem dX4_put_39 : decode cX4_put 39 = .ok (.getfield 57, 3) := by decide +kernel
theorem dX4_put_42 : decode cX4_put 42 = .ok (.iload_n 1, 1) := by decide +kernel
theorem dX4_put_43 : decode cX4_put 43 = .ok (.iaload, 1) := by decide +kernel
theorem dX4_put_44 : decode cX4_put 44 = .ok (.iload 4, 2) := by decide +kernel
theorem dX4_put_46 : decode cX4_put 46 = .ok (.iand, 1) := by decide +kernel
theorem dX4_put_47 : decode cX4_put 47 = .ok (.ifCond .eq 7, 3) := by decide +kernel
theorem dX4_put_50 : decode cX4_put 50 = .ok (.iconst 1, 1) := by decide +kernel
theorem dX4_put_51 : decode cX4_put 51 = .ok (.goto 4, 3) := by decide +kernel
theorem dX4_put_54 : decode cX4_put 54 = .ok (.iconst 0, 1) := by decide +kernel
theorem dX4_put_55 : decode cX4_put 55 = .ok (.istore 5, 2) := by decide +kernel
theorem dX4_put_57 : decode cX4_put 57 = .ok (.aload_n 0, 1) := by decide +kernel
theorem dX4_put_58 : decode cX4_put 58 = .ok (.getfield 57, 3) := by decide +kernel
theorem dX4_put_61 : decode cX4_put 61 = .ok (.iload_n 1, 1) := by decide +kernel
theorem dX4_put_62 : decode cX4_put 62 = .ok (.iload_n 3, 1) := by decide +kernel
theorem dX4_put_63 : decode cX4_put 63 = .ok (.ifCond .eq 15, 3) := by decide +kernel
theorem dX4_put_66 : decode cX4_put 66 = .ok (.aload_n 0, 1) := by decide +kernel
theorem dX4_put_67 : decode cX4_put 67 = .ok (.getfield 57, 3) := by decide +kernel
theorem dX4_put_70 : decode cX4_put 70 = .ok (.iload_n 1, 1) := by decide +kernel
theorem dX4_put_71 : decode cX4_put 71 = .ok (.iaload, 1) := by decide +kernel
theorem dX4_put_72 : decode cX4_put 72 = .ok (.iload 4, 2) := by decide +kernel
theorem dX4_put_74 : decode cX4_put 74 = .ok (.ior, 1) := by decide +kernel
theorem dX4_put_75 : decode cX4_put 75 = .ok (.goto 14, 3) := by decide +kernel
theorem dX4_put_78 : decode cX4_put 78 = .ok (.aload_n 0, 1) := by decide +kernel
theorem dX4_put_79 : decode cX4_put 79 = .ok (.getfield 57, 3) := by decide +kernel
theorem dX4_put_82 : decode cX4_put 82 = .ok (.iload_n 1, 1) := by decide +kernel
theorem dX4_put_83 : decode cX4_put 83 = .ok (.iaload, 1) := by decide +kernel
theorem dX4_put_84 : decode cX4_put 84 = .ok (.iload 4, 2) := by decide +kernel
theorem dX4_put_86 : decode cX4_put 86 = .ok (.iconst (-1), 1) := by decide +kernel
theorem dX4_put_87 : decode cX4_put 87 = .ok (.ixor, 1) := by decide +kernel
theorem dX4_put_88 : decode cX4_put 88 = .ok (.iand, 1) := by decide +kernel
theorem dX4_put_89 : decode cX4_put 89 = .ok (.iastore, 1) := by decide +kernel
theorem dX4_put_90 : decode cX4_put 90 = .ok (.iload 5, 2) := by decide +kernel
theorem dX4_put_92 : decode cX4_put 92 = .ok (.ireturn, 1) := by decide +kernel
set_option maxRecDepth 20000 in
theorem ggX4_join_X4_isIn : GoodIn wsX4_join wsX4_isIn := goodIn_r _ [7] (by decide +kernel) (by decide +kernel)
set_option maxRecDepth 20000 in
theorem gX4_join_X4_isIn : GoodIn wsX4_join (va_wsS RX4 79 yX4_isIn wsX4_isIn) := goodIn_app (goodIn_of _ (by decide +kernel)) ggX4_join_X4_isIn
set_option maxRecDepth 20000 in
theorem ggX4_join_X4_isSet : GoodIn wsX4_join wsX4_isSet := goodIn_r _ [10, 4, 5, 6, 7] (by decide +kernel) (by decide +kernel)
set_option maxRecDepth 20000 in
theorem gX4_join_X4_isSet : GoodIn wsX4_join (va_wsS RX4 130 yX4_isSet wsX4_isSet) := goodIn_app (goodIn_of _ (by decide +kernel)) ggX4_join_X4_isSet
set_option maxRecDepth 20000 in
theorem ggX4_join_X4_size : GoodIn wsX4_join wsX4_size := goodIn_r _ [13] (by decide +kernel) (by decide +kernel)
set_option maxRecDepth 20000 in
theorem gX4_join_X4_size : GoodIn wsX4_join (va_wsS RX4 133 yX4_size wsX4_size) := goodIn_app (goodIn_of _ (by decide +kernel)) ggX4_join_X4_size
theorem dX4_join_0 : decode cX4_join 0 = .ok (.iload_n 1, 1) := by decide +kernel
theorem dX4_join_1 : decode cX4_join 1 = .ok (.iconst 0, 1) := by decide +kernel
theorem dX4_join_2 : decode cX4_join 2 = .ok (.iconst 3, 1) := by decide +kernel
theorem dX4_join_3 : decode cX4_join 3 = .ok (.invokestatic 79, 3) := by decide +kernel
theorem dX4_join_6 : decode cX4_join 6 = .ok (.ifCond .eq 25, 3) := by decide +kernel
theorem dX4_join_9 : decode cX4_join 9 = .ok (.iload_n 2, 1) := by decide +kernel
theorem dX4_join_10 : decode cX4_join 10 = .ok (.invokestatic 130, 3) := by decide +kernel
theorem dX4_join_13 : decode cX4_join 13 = .ok (.ifCond .eq 18, 3) := by decide +kernel
theorem dX4_join_16 : decode cX4_join 16 = .ok (.iload_n 3, 1) := by decide +kernel
theorem dX4_join_17 : decode cX4_join 17 = .ok (.invokestatic 130, 3) := by decide +kernel
theorem dX4_join_20 : decode cX4_join 20 = .ok (.ifCond .eq 11, 3) := by decide +kernel
theorem dX4_join_23 : decode cX4_join 23 = .ok (.iload 4, 2) := by decide +kernel
theorem dX4_join_25 : decode cX4_join 25 = .ok (.invokestatic 130, 3) := by decide +kernel
theorem dX4_join_28 : decode cX4_join 28 = .ok (.ifCond .ne 5, 3) := by decide +kernel
theorem dX4_join_31 : decode cX4_join 31 = .ok (.iconst (-1), 1) := by decide +kernel
theorem dX4_join_32 : decode cX4_join 32 = .ok (.ireturn, 1) := by decide +kernel
theorem dX4_join_33 : decode cX4_join 33 = .ok (.iload_n 1, 1) := by decide +kernel
theorem dX4_join_34 : decode cX4_join 34 = .ok (.iconst 3, 1) := by decide +kernel
theorem dX4_join_35 : decode cX4_join 35 = .ok (.if_icmp .ge 21, 3) := by decide +kernel
theorem dX4_join_38 : decode cX4_join 38 = .ok (.aload_n 0, 1) := by decide +kernel
theorem dX4_join_39 : decode cX4_join 39 = .ok (.getfield 54, 3) := by decide +kernel
theorem dX4_join_42 : decode cX4_join 42 = .ok (.iload_n 2, 1) := by decide +kernel
theorem dX4_join_43 : decode cX4_join 43 = .ok (.iaload, 1) := by decide +kernel
theorem dX4_join_44 : decode cX4_join 44 = .ok (.aload_n 0, 1) := by decide +kernel
theorem dX4_join_45 : decode cX4_join 45 = .ok (.getfield 54, 3) := by decide +kernel
theorem dX4_join_48 : decode cX4_join 48 = .ok (.iload_n 3, 1) := by decide +kernel
theorem dX4_join_49 : decode cX4_join 49 = .ok (.iaload, 1) := by decide +kernel
theorem dX4_join_50 : decode cX4_join 50 = .ok (.if_icmp .eq 6, 3) := by decide +kernel
theorem dX4_join_53 : decode cX4_join 53 = .ok (.bipush (-3), 2) := by decide +kernel
theorem dX4_join_55 : decode cX4_join 55 = .ok (.ireturn, 1) := by decide +kernel
theorem dX4_join_56 : decode cX4_join 56 = .ok (.iconst 1, 1) := by decide +kernel
theorem dX4_join_57 : decode cX4_join 57 = .ok (.aload_n 0, 1) := by decide +kernel
theorem dX4_join_58 : decode cX4_join 58 = .ok (.getfield 7, 3) := by decide +kernel
theorem dX4_join_61 : decode cX4_join 61 = .ok (.aload_n 0, 1) := by decide +kernel
theorem dX4_join_62 : decode cX4_join 62 = .ok (.getfield 54, 3) := by decide +kernel
theorem dX4_join_65 : decode cX4_join 65 = .ok (.iload_n 2, 1) := by decide +kernel
theorem dX4_join_66 : decode cX4_join 66 = .ok (.iaload, 1) := by decide +kernel
theorem dX4_join_67 : decode cX4_join 67 = .ok (.iaload, 1) := by decide +kernel
theorem dX4_join_68 : decode cX4_join 68 = .ok (.ishl, 1) := by decide +kernel
theorem dX4_join_69 : decode cX4_join 69 = .ok (.iconst 1, 1) := by decide +kernel
theorem dX4_join_70 : decode cX4_join 70 = .ok (.isub, 1) := by decide +kernel
theorem dX4_join_71 : decode cX4_join 71 = .ok (.istore 5, 2) := by decide +kernel
theorem dX4_join_73 : decode cX4_join 73 = .ok (.iload_n 1, 1) := by decide +kernel
theorem dX4_join_74 : decode cX4_join 74 = .ok (.ifCond .ne 19, 3) := by decide +kernel
theorem dX4_join_77 : decode cX4_join 77 = .ok (.aload_n 0, 1) := by decide +kernel
theorem dX4_join_78 : decode cX4_join 78 = .ok (.getfield 57, 3) := by decide +kernel
theorem dX4_join_81 : decode cX4_join 81 = .ok (.iload_n 2, 1) := by decide +kernel
theorem dX4_join_82 : decode cX4_join 82 = .ok (.iaload, 1) := by decide +kernel
theorem dX4_join_83 : decode cX4_join 83 = .ok (.aload_n 0, 1) := by decide +kernel
theorem dX4_join_84 : decode cX4_join 84 = .ok (.getfield 57, 3) := by decide +kernel
theorem dX4_join_87 : decode cX4_join 87 = .ok (.iload_n 3, 1) := by decide +kernel
theorem dX4_join_88 : decode cX4_join 88 = .ok (.iaload, 1) := by decide +kernel
theorem dX4_join_89 : decode cX4_join 89 = .ok (.ior, 1) := by decide +kernel
theorem dX4_join_90 : decode cX4_join 90 = .ok (.goto 58, 3) := by decide +kernel
theorem dX4_join_93 : decode cX4_join 93 = .ok (.iload_n 1, 1) := by decide +kernel
theorem dX4_join_94 : decode cX4_join 94 = .ok (.iconst 1, 1) := by decide +kernel
theorem dX4_join_95 : decode cX4_join 95 = .ok (.if_icmp .ne 19, 3) := by decide +kernel
theorem dX4_join_98 : decode cX4_join 98 = .ok (.aload_n 0, 1) := by decide +kernel
theorem dX4_join_99 : decode cX4_join 99 = .ok (.getfield 57, 3) := by decide +kernel
theorem dX4_join_102 : decode cX4_join 102 = .ok (.iload_n 2, 1) := by decide +kernel
theorem dX4_join_103 : decode cX4_join 103 = .ok (.iaload, 1) := by decide +kernel
theorem dX4_join_104 : decode cX4_join 104 = .ok (.aload_n 0, 1) := by decide +kernel
theorem dX4_join_105 : decode cX4_join 105 = .ok (.getfield 57, 3) := by decide +kernel
theorem dX4_join_108 : decode cX4_join 108 = .ok (.iload_n 3, 1) := by decide +kernel
theorem dX4_join_109 : decode cX4_join 109 = .ok (.iaload, 1) := by decide +kernel
theorem dX4_join_110 : decode cX4_join 110 = .ok (.iand, 1) := by decide +kernel
theorem dX4_join_111 : decode cX4_join 111 = .ok (.goto 37, 3) := by decide +kernel
theorem dX4_join_114 : decode cX4_join 114 = .ok (.iload_n 1, 1) := by decide +kernel
theorem dX4_join_115 : decode cX4_join 115 = .ok (.iconst 2, 1) := by decide +kernel
theorem dX4_join_116 : decode cX4_join 116 = .ok (.if_icmp .ne 21, 3) := by decide +kernel
theorem dX4_join_119 : decode cX4_join 119 = .ok (.aload_n 0, 1) := by decide +kernel
theorem dX4_join_120 : decode cX4_join 120 = .ok (.getfield 57, 3) := by decide +kernel
theorem dX4_join_123 : decode cX4_join 123 = .ok (.iload_n 2, 1) := by decide +kernel
theorem dX4_join_124 : decode cX4_join 124 = .ok (.iaload, 1) := by decide +kernel
theorem dX4_join_125 : decode cX4_join 125 = .ok (.aload_n 0, 1) := by decide +kernel
theorem dX4_join_126 : decode cX4_join 126 = .ok (.getfield 57, 3) := by decide +kernel
theorem dX4_join_129 : decode cX4_join 129 = .ok (.iload_n 3, 1) := by decide +kernel
theorem dX4_join_130 : decode cX4_join 130 = .ok (.iaload, 1) := by decide +kernel
theorem dX4_join_131 : decode cX4_join 131 = .ok (.iconst (-1), 1) := by decide +kernel
theorem dX4_join_132 : decode cX4_join 132 = .ok (.ixor, 1) := by decide +kernel
theorem dX4_join_133 : decode cX4_join 133 = .ok (.iand, 1) := by decide +kernel
theorem dX4_join_134 : decode cX4_join 134 = .ok (.goto 14, 3) := by decide +kernel
theorem dX4_join_137 : decode cX4_join 137 = .ok (.iload 5, 2) := by decide +kernel
theorem dX4_join_139 : decode cX4_join 139 = .ok (.aload_n 0, 1) := by decide +kernel
theorem dX4_join_140 : decode cX4_join 140 = .ok (.getfield 57, 3) := by decide +kernel
theorem dX4_join_143 : decode cX4_join 143 = .ok (.iload_n 2, 1) := by decide +kernel
theorem dX4_join_144 : decode cX4_join 144 = .ok (.iaload, 1) := by decide +kernel
theorem dX4_join_145 : decode cX4_join 145 = .ok (.iconst (-1), 1) := by decide +kernel
theorem dX4_join_146 : decode cX4_join 146 = .ok (.ixor, 1) := by decide +kernel
theorem dX4_join_147 : decode cX4_join 147 = .ok (.iand, 1) := by decide +kernel
theorem dX4_join_148 : decode cX4_join 148 = .ok (.istore 6, 2) := by decide +kernel
theorem dX4_join_150 : decode cX4_join 150 = .ok (.aload_n 0, 1) := by decide +kernel
theorem dX4_join_151 : decode cX4_join 151 = .ok (.getfield 54, 3) := by decide +kernel
theorem dX4_join_154 : decode cX4_join 154 = .ok (.iload 4, 2) := by decide +kernel
theorem dX4_join_156 : decode cX4_join 156 = .ok (.aload_n 0, 1) := by decide +kernel
theorem dX4_join_157 : decode cX4_join 157 = .ok (.getfield 54, 3) := by decide +kernel
theorem dX4_join_160 : decode cX4_join 160 = .ok (.iload_n 2, 1) := by decide +kernel
theorem dX4_join_161 : decode cX4_join 161 = .ok (.iaload, 1) := by decide +kernel
theorem dX4_join_162 : decode cX4_join 162 = .ok (.iastore, 1) := by decide +kernel
theorem dX4_join_163 : decode cX4_join 163 = .ok (.aload_n 0, 1) := by decide +kernel
theorem dX4_join_164 : decode cX4_join 164 = .ok (.getfield 57, 3) := by decide +kernel
theorem dX4_join_167 : decode cX4_join 167 = .ok (.iload 4, 2) := by decide +kernel
theorem dX4_join_169 : decode cX4_join 169 = .ok (.iload 6, 2) := by decide +kernel
theorem dX4_join_171 : decode cX4_join 171 = .ok (.iastore, 1) := by decide +kernel
theorem dX4_join_172 : decode cX4_join 172 = .ok (.iload 6, 2) := by decide +kernel
theorem dX4_join_174 : decode cX4_join 174 = .ok (.invokestatic 133, 3) := by decide +kernel
theorem dX4_join_177 : decode cX4_join 177 = .ok (.ireturn, 1) := by decide +kernel
set_option maxRecDepth 20000 in
theorem ggX4_member_X4_isSet : GoodIn wsX4_member wsX4_isSet := goodIn_r _ [7, 8, 9, 6, 10] (by decide +kernel) (by decide +kernel)
set_option maxRecDepth 20000 in
theorem gX4_member_X4_isSet : GoodIn wsX4_member (va_wsS RX4 130 yX4_isSet wsX4_isSet) := goodIn_app (goodIn_of _ (by decide +kernel)) ggX4_member_X4_isSet
set_option maxRecDepth 20000 in
theorem ggX4_member_X4_constant : GoodIn wsX4_member wsX4_constant := goodIn_r _ [14, 15, 16, 17, 18, 6, 19, 1, 8, 9, 10, 20, 21, 22, 23, 24, 25, 26, 27, 28, 29, 30, 31, 32, 33, 34, 35, 36, 37, 38] (by decide +kernel) (by decide +kernel)
set_option maxRecDepth 20000 in
theorem gX4_member_X4_constant : GoodIn wsX4_member (wsV RX4 97 RX4 yX4_constant wsX4_constant) := goodIn_app (goodIn_of _ (by decide +kernel)) ggX4_member_X4_constant
theorem dX4_member_0 : decode cX4_member 0 = .ok (.iload_n 1, 1) := by decide +kernel
theorem dX4_member_1 : decode cX4_member 1 = .ok (.invokestatic 130, 3) := by decide +kernel
theorem dX4_member_4 : decode cX4_member 4 = .ok (.ifCond .ne 5, 3) := by decide +kernel
theorem dX4_member_7 : decode cX4_member 7 = .ok (.iconst (-1), 1) := by decide +kernel
theorem dX4_member_8 : decode cX4_member 8 = .ok (.ireturn, 1) := by decide +kernel
theorem dX4_member_9 : decode cX4_member 9 = .ok (.iconst 0, 1) := by decide +kernel
theorem dX4_member_10 : decode cX4_member 10 = .ok (.istore_n 3, 1) := by decide +kernel
theorem dX4_member_11 : decode cX4_member 11 = .ok (.iconst 0, 1) := by decide +kernel
theorem dX4_member_12 : decode cX4_member 12 = .ok (.istore 4, 2) := by decide +kernel
theorem dX4_member_14 : decode cX4_member 14 = .ok (.iload 4, 2) := by decide +kernel
theorem dX4_member_16 : decode cX4_member 16 = .ok (.aload_n 0, 1) := by decide +kernel
theorem dX4_member_17 : decode cX4_member 17 = .ok (.getfield 7, 3) := by decide +kernel
theorem dX4_member_20 : decode cX4_member 20 = .ok (.aload_n 0, 1) := by decide +kernel
theorem dX4_member_21 : decode cX4_member 21 = .ok (.getfield 54, 3) := by decide +kernel
theorem dX4_member_24 : decode cX4_member 24 = .ok (.iload_n 1, 1) := by decide +kernel
theorem dX4_member_25 : decode cX4_member 25 = .ok (.iaload, 1) := by decide +kernel
theorem dX4_member_26 : decode cX4_member 26 = .ok (.iaload, 1) := by decide +kernel
theorem dX4_member_27 : decode cX4_member 27 = .ok (.if_icmp .ge 45, 3) := by decide +kernel
theorem dX4_member_30 : decode cX4_member 30 = .ok (.aload_n 0, 1) := by decide +kernel
theorem dX4_member_31 : decode cX4_member 31 = .ok (.getfield 57, 3) := by decide +kernel
theorem dX4_member_34 : decode cX4_member 34 = .ok (.iload_n 1, 1) := by decide +kernel
theorem dX4_member_35 : decode cX4_member 35 = .ok (.iaload, 1) := by decide +kernel
theorem dX4_member_36 : decode cX4_member 36 = .ok (.aload_n 0, 1) := by decide +kernel
theorem dX4_member_37 : decode cX4_member 37 = .ok (.aload_n 0, 1) := by decide +kernel
theorem dX4_member_38 : decode cX4_member 38 = .ok (.getfield 54, 3) := by decide +kernel
theorem dX4_member_41 : decode cX4_member 41 = .ok (.iload_n 1, 1) := by decide +kernel
theorem dX4_member_42 : decode cX4_member 42 = .ok (.iaload, 1) := by decide +kernel
theorem dX4_member_43 : decode cX4_member 43 = .ok (.iload 4, 2) := by decide +kernel
theorem dX4_member_45 : decode cX4_member 45 = .ok (.invokevirtual 97, 3) := by decide +kernel
theorem dX4_member_48 : decode cX4_member 48 = .ok (.ishr, 1) := by decide +kernel
theorem dX4_member_49 : decode cX4_member 49 = .ok (.iconst 1, 1) := by decide +kernel
theorem dX4_member_50 : decode cX4_member 50 = .ok (.iand, 1) := by decide +kernel
theorem dX4_member_51 : decode cX4_member 51 = .ok (.iconst 1, 1) := by decide +kernel
theorem dX4_member_52 : decode cX4_member 52 = .ok (.if_icmp .ne 14, 3) := by decide +kernel
theorem dX4_member_55 : decode cX4_member 55 = .ok (.iload_n 3, 1) := by decide +kernel
theorem dX4_member_56 : decode cX4_member 56 = .ok (.iload_n 2, 1) := by decide +kernel
theorem dX4_member_57 : decode cX4_member 57 = .ok (.if_icmp .ne 6, 3) := by decide +kernel
theorem dX4_member_60 : decode cX4_member 60 = .ok (.iload 4, 2) := by decide +kernel
theorem dX4_member_62 : decode cX4_member 62 = .ok (.ireturn, 1) := by decide +kernel
theorem dX4_member_63 : decode cX4_member 63 = .ok (.iinc 3 1, 3) := by decide +kernel
theorem dX4_member_66 : decode cX4_member 66 = .ok (.iinc 4 1, 3) := by decide +kernel
theorem dX4_member_69 : decode cX4_member 69 = .ok (.goto (-55), 3) := by decide +kernel
theorem dX4_member_72 : decode cX4_member 72 = .ok (.bipush (-4), 2) := by decide +kernel
theorem dX4_member_74 : decode cX4_member 74 = .ok (.ireturn, 1) := by decide +kernel
set_option maxRecDepth 20000 in
theorem ggX4_about_X4_isSet : GoodIn wsX4_about wsX4_isSet := goodIn_r _ [6, 7, 8, 5, 9] (by decide +kernel) (by decide +kernel)
set_option maxRecDepth 20000 in
theorem gX4_about_X4_isSet : GoodIn wsX4_about (va_wsS RX4 130 yX4_isSet wsX4_isSet) := goodIn_app (goodIn_of _ (by decide +kernel)) ggX4_about_X4_isSet
set_option maxRecDepth 20000 in
theorem ggX4_about_X4_isIn : GoodIn wsX4_about wsX4_isIn := goodIn_r _ [9] (by decide +kernel) (by decide +kernel)
set_option maxRecDepth 20000 in
theorem gX4_about_X4_isIn : GoodIn wsX4_about (va_wsS RX4 79 yX4_isIn wsX4_isIn) := goodIn_app (goodIn_of _ (by decide +kernel)) ggX4_about_X4_isIn
set_option maxRecDepth 20000 in
theorem ggX4_about_X4_size : GoodIn wsX4_about wsX4_size := goodIn_r _ [12] (by decide +kernel) (by decide +kernel)
set_option maxRecDepth 20000 in
theorem gX4_about_X4_size : GoodIn wsX4_about (va_wsS RX4 133 yX4_size wsX4_size) := goodIn_app (goodIn_of _ (by decide +kernel)) ggX4_about_X4_size
theorem dX4_about_0 : decode cX4_about 0 = .ok (.iload_n 1, 1) := by decide +kernel
theorem dX4_about_1 : decode cX4_about 1 = .ok (.invokestatic 130, 3) := by decide +kernel
theorem dX4_about_4 : decode cX4_about 4 = .ok (.ifCond .eq 12, 3) := by decide +kernel
theorem dX4_about_7 : decode cX4_about 7 = .ok (.iload_n 2, 1) := by decide +kernel
theorem dX4_about_8 : decode cX4_about 8 = .ok (.iconst 0, 1) := by decide +kernel
theorem dX4_about_9 : decode cX4_about 9 = .ok (.iconst 1, 1) := by decide +kernel
theorem dX4_about_10 : decode cX4_about 10 = .ok (.invokestatic 79, 3) := by decide +kernel
theorem dX4_about_13 : decode cX4_about 13 = .ok (.ifCond .ne 5, 3) := by decide +kernel
theorem dX4_about_16 : decode cX4_about 16 = .ok (.iconst (-1), 1) := by decide +kernel
theorem dX4_about_17 : decode cX4_about 17 = .ok (.ireturn, 1) := by decide +kernel
theorem dX4_about_18 : decode cX4_about 18 = .ok (.iload_n 2, 1) := by decide +kernel
theorem dX4_about_19 : decode cX4_about 19 = .ok (.ifCond .ne 15, 3) := by decide +kernel
theorem dX4_about_22 : decode cX4_about 22 = .ok (.aload_n 0, 1) := by decide +kernel
theorem dX4_about_23 : decode cX4_about 23 = .ok (.getfield 57, 3) := by decide +kernel
theorem dX4_about_26 : decode cX4_about 26 = .ok (.iload_n 1, 1) := by decide +kernel
theorem dX4_about_27 : decode cX4_about 27 = .ok (.iaload, 1) := by decide +kernel
theorem dX4_about_28 : decode cX4_about 28 = .ok (.invokestatic 133, 3) := by decide +kernel
theorem dX4_about_31 : decode cX4_about 31 = .ok (.goto 9, 3) := by decide +kernel
theorem dX4_about_34 : decode cX4_about 34 = .ok (.aload_n 0, 1) := by decide +kernel
theorem dX4_about_35 : decode cX4_about 35 = .ok (.getfield 54, 3) := by decide +kernel
theorem dX4_about_38 : decode cX4_about 38 = .ok (.iload_n 1, 1) := by decide +kernel
theorem dX4_about_39 : decode cX4_about 39 = .ok (.iaload, 1) := by decide +kernel
theorem dX4_about_40 : decode cX4_about 40 = .ok (.ireturn, 1) := by decide +kernel
set_option maxRecDepth 20000 in
theorem ggX4_found_X4_isIn : GoodIn wsX4_found wsX4_isIn := goodIn_r _ [6] (by decide +kernel) (by decide +kernel)
set_option maxRecDepth 20000 in
theorem gX4_found_X4_isIn : GoodIn wsX4_found (va_wsS RX4 79 yX4_isIn wsX4_isIn) := goodIn_app (goodIn_of _ (by decide +kernel)) ggX4_found_X4_isIn
theorem dX4_found_0 : decode cX4_found 0 = .ok (.iload_n 1, 1) := by decide +kernel
theorem dX4_found_1 : decode cX4_found 1 = .ok (.iconst 0, 1) := by decide +kernel
theorem dX4_found_2 : decode cX4_found 2 = .ok (.aload_n 0, 1) := by decide +kernel
theorem dX4_found_3 : decode cX4_found 3 = .ok (.getfield 168, 3) := by decide +kernel
theorem dX4_found_6 : decode cX4_found 6 = .ok (.iconst 1, 1) := by decide +kernel
theorem dX4_found_7 : decode cX4_found 7 = .ok (.isub, 1) := by decide +kernel
theorem dX4_found_8 : decode cX4_found 8 = .ok (.invokestatic 79, 3) := by decide +kernel
theorem dX4_found_11 : decode cX4_found 11 = .ok (.ifCond .eq 12, 3) := by decide +kernel
theorem dX4_found_14 : decode cX4_found 14 = .ok (.aload_n 0, 1) := by decide +kernel
theorem dX4_found_15 : decode cX4_found 15 = .ok (.getfield 73, 3) := by decide +kernel
theorem dX4_found_18 : decode cX4_found 18 = .ok (.iload_n 1, 1) := by decide +kernel
theorem dX4_found_19 : decode cX4_found 19 = .ok (.iaload, 1) := by decide +kernel
theorem dX4_found_20 : decode cX4_found 20 = .ok (.goto 5, 3) := by decide +kernel
theorem dX4_found_23 : decode cX4_found 23 = .ok (.bipush (-4), 2) := by decide +kernel
theorem dX4_found_25 : decode cX4_found 25 = .ok (.ireturn, 1) := by decide +kernel
theorem dX4_count_0 : decode cX4_count 0 = .ok (.iload_n 1, 1) := by decide +kernel
theorem dX4_count_1 : decode cX4_count 1 = .ok (.ifCond .eq 8, 3) := by decide +kernel
theorem dX4_count_4 : decode cX4_count 4 = .ok (.iload_n 1, 1) := by decide +kernel
theorem dX4_count_5 : decode cX4_count 5 = .ok (.iconst 1, 1) := by decide +kernel
theorem dX4_count_6 : decode cX4_count 6 = .ok (.if_icmp .ne 12, 3) := by decide +kernel
theorem dX4_count_9 : decode cX4_count 9 = .ok (.aload_n 0, 1) := by decide +kernel
theorem dX4_count_10 : decode cX4_count 10 = .ok (.getfield 60, 3) := by decide +kernel
theorem dX4_count_13 : decode cX4_count 13 = .ok (.iload_n 1, 1) := by decide +kernel
theorem dX4_count_14 : decode cX4_count 14 = .ok (.iaload, 1) := by decide +kernel
theorem dX4_count_15 : decode cX4_count 15 = .ok (.goto 28, 3) := by decide +kernel
theorem dX4_count_18 : decode cX4_count 18 = .ok (.iload_n 1, 1) := by decide +kernel
theorem dX4_count_19 : decode cX4_count 19 = .ok (.iconst 2, 1) := by decide +kernel
theorem dX4_count_20 : decode cX4_count 20 = .ok (.if_icmp .ne 10, 3) := by decide +kernel
theorem dX4_count_23 : decode cX4_count 23 = .ok (.aload_n 0, 1) := by decide +kernel
theorem dX4_count_24 : decode cX4_count 24 = .ok (.getfield 117, 3) := by decide +kernel
theorem dX4_count_27 : decode cX4_count 27 = .ok (.goto 16, 3) := by decide +kernel
theorem dX4_count_30 : decode cX4_count 30 = .ok (.iload_n 1, 1) := by decide +kernel
theorem dX4_count_31 : decode cX4_count 31 = .ok (.iconst 3, 1) := by decide +kernel
theorem dX4_count_32 : decode cX4_count 32 = .ok (.if_icmp .ne 10, 3) := by decide +kernel
theorem dX4_count_35 : decode cX4_count 35 = .ok (.aload_n 0, 1) := by decide +kernel
theorem dX4_count_36 : decode cX4_count 36 = .ok (.getfield 144, 3) := by decide +kernel
theorem dX4_count_39 : decode cX4_count 39 = .ok (.goto 4, 3) := by decide +kernel
theorem dX4_count_42 : decode cX4_count 42 = .ok (.iconst (-1), 1) := by decide +kernel
theorem dX4_count_43 : decode cX4_count 43 = .ok (.ireturn, 1) := by decide +kernel
