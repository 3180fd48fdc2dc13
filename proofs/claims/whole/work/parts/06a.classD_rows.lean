set_option maxRecDepth 20000 in
theorem ggX3_code_X3_kindNumbered : GoodIn wsX3_code wsX3_kindNumbered := goodIn_r _ [5, 6, 7, 8, 23, 24, 25, 26, 27, 28, 29, 30, 31, 32, 33, 34, 35, 36] (by decide +kernel) (by decide +kernel)
set_option maxRecDepth 20000 in
theorem gX3_code_X3_kindNumbered : GoodIn wsX3_code (wsV RX3 82 RX3 yX3_kindNumbered wsX3_kindNumbered) := goodIn_app (goodIn_of _ (by decide +kernel)) ggX3_code_X3_kindNumbered
set_option maxRecDepth 20000 in
theorem ggX3_code_X0_constantNamed : GoodIn wsX3_code wsX0_constantNamed := goodIn_r _ [12, 13, 14, 37, 38, 39, 40, 41, 42, 43] (by decide +kernel) (by decide +kernel)
set_option maxRecDepth 20000 in
theorem gX3_code_X0_constantNamed_n86 : GoodIn wsX3_code (wsX0_constantNamed) := ggX3_code_X0_constantNamed
set_option maxRecDepth 20000 in
theorem ggX3_code_X0_codeOf : GoodIn wsX3_code wsX0_codeOf := goodIn_r _ [17, 18, 19, 20, 21, 10, 22, 13, 37, 38, 39, 40, 41, 42, 43] (by decide +kernel) (by decide +kernel)
set_option maxRecDepth 20000 in
theorem gX3_code_X0_codeOf_n90 : GoodIn wsX3_code (wsX0_codeOf) := ggX3_code_X0_codeOf
theorem dX3_code_0 : decode cX3_code 0 = .ok (.aload_n 0, 1) := by decide +kernel
theorem dX3_code_1 : decode cX3_code 1 = .ok (.iload_n 1, 1) := by decide +kernel
theorem dX3_code_2 : decode cX3_code 2 = .ok (.invokevirtual 82, 3) := by decide +kernel
theorem dX3_code_5 : decode cX3_code 5 = .ok (.astore 4, 2) := by decide +kernel
theorem dX3_code_7 : decode cX3_code 7 = .ok (.aload 4, 2) := by decide +kernel
theorem dX3_code_9 : decode cX3_code 9 = .ok (.ifnonnull 5, 3) := by decide +kernel
theorem dX3_code_12 : decode cX3_code 12 = .ok (.iconst (-1), 1) := by decide +kernel
theorem dX3_code_13 : decode cX3_code 13 = .ok (.ireturn, 1) := by decide +kernel
theorem dX3_code_14 : decode cX3_code 14 = .ok (.aload 4, 2) := by decide +kernel
theorem dX3_code_16 : decode cX3_code 16 = .ok (.lload_n 2, 1) := by decide +kernel
theorem dX3_code_17 : decode cX3_code 17 = .ok (.invokevirtual 86, 3) := by decide +kernel
theorem dX3_code_20 : decode cX3_code 20 = .ok (.istore 5, 2) := by decide +kernel
theorem dX3_code_22 : decode cX3_code 22 = .ok (.iload 5, 2) := by decide +kernel
theorem dX3_code_24 : decode cX3_code 24 = .ok (.iconst (-1), 1) := by decide +kernel
theorem dX3_code_25 : decode cX3_code 25 = .ok (.if_icmp .ne 8, 3) := by decide +kernel
theorem dX3_code_28 : decode cX3_code 28 = .ok (.bipush (-4), 2) := by decide +kernel
theorem dX3_code_30 : decode cX3_code 30 = .ok (.goto 10, 3) := by decide +kernel
theorem dX3_code_33 : decode cX3_code 33 = .ok (.aload 4, 2) := by decide +kernel
theorem dX3_code_35 : decode cX3_code 35 = .ok (.iload 5, 2) := by decide +kernel
theorem dX3_code_37 : decode cX3_code 37 = .ok (.invokevirtual 90, 3) := by decide +kernel
theorem dX3_code_40 : decode cX3_code 40 = .ok (.ireturn, 1) := by decide +kernel
set_option maxRecDepth 20000 in
theorem ggX3_name_X3_kindNumbered : GoodIn wsX3_name wsX3_kindNumbered := goodIn_r _ [5, 6, 7, 8, 23, 24, 25, 26, 27, 28, 29, 30, 31, 32, 33, 34, 35, 36] (by decide +kernel) (by decide +kernel)
set_option maxRecDepth 20000 in
theorem gX3_name_X3_kindNumbered : GoodIn wsX3_name (wsV RX3 82 RX3 yX3_kindNumbered wsX3_kindNumbered) := goodIn_app (goodIn_of _ (by decide +kernel)) ggX3_name_X3_kindNumbered
set_option maxRecDepth 20000 in
theorem ggX3_name_X0_constantOf : GoodIn wsX3_name wsX0_constantOf := goodIn_r _ [12, 13, 14, 15, 16, 10, 17, 18, 37, 38, 39, 40, 41, 42, 43] (by decide +kernel) (by decide +kernel)
set_option maxRecDepth 20000 in
theorem gX3_name_X0_constantOf_n94 : GoodIn wsX3_name (wsX0_constantOf) := ggX3_name_X0_constantOf
set_option maxRecDepth 20000 in
theorem ggX3_name_X0_nameOf : GoodIn wsX3_name wsX0_nameOf := goodIn_r _ [21, 22, 14, 15, 16, 10, 17, 18, 37, 38, 39, 40, 41, 42, 43] (by decide +kernel) (by decide +kernel)
set_option maxRecDepth 20000 in
theorem gX3_name_X0_nameOf_n97 : GoodIn wsX3_name (wsX0_nameOf) := ggX3_name_X0_nameOf
theorem dX3_name_0 : decode cX3_name 0 = .ok (.aload_n 0, 1) := by decide +kernel
theorem dX3_name_1 : decode cX3_name 1 = .ok (.iload_n 1, 1) := by decide +kernel
theorem dX3_name_2 : decode cX3_name 2 = .ok (.invokevirtual 82, 3) := by decide +kernel
theorem dX3_name_5 : decode cX3_name 5 = .ok (.astore_n 3, 1) := by decide +kernel
theorem dX3_name_6 : decode cX3_name 6 = .ok (.aload_n 3, 1) := by decide +kernel
theorem dX3_name_7 : decode cX3_name 7 = .ok (.ifnonnull 7, 3) := by decide +kernel
theorem dX3_name_10 : decode cX3_name 10 = .ok (.lconst 0, 1) := by decide +kernel
theorem dX3_name_11 : decode cX3_name 11 = .ok (.goto 12, 3) := by decide +kernel
theorem dX3_name_14 : decode cX3_name 14 = .ok (.aload_n 3, 1) := by decide +kernel
theorem dX3_name_15 : decode cX3_name 15 = .ok (.aload_n 3, 1) := by decide +kernel
theorem dX3_name_16 : decode cX3_name 16 = .ok (.iload_n 2, 1) := by decide +kernel
theorem dX3_name_17 : decode cX3_name 17 = .ok (.invokevirtual 94, 3) := by decide +kernel
theorem dX3_name_20 : decode cX3_name 20 = .ok (.invokevirtual 97, 3) := by decide +kernel
theorem dX3_name_23 : decode cX3_name 23 = .ok (.lreturn, 1) := by decide +kernel
set_option maxRecDepth 20000 in
theorem ggX3_swap_X3_kindNumbered : GoodIn wsX3_swap wsX3_kindNumbered := goodIn_r _ [5, 6, 7, 8, 28, 29, 30, 31, 32, 33, 34, 35, 36, 37, 38, 39, 40, 41] (by decide +kernel) (by decide +kernel)
set_option maxRecDepth 20000 in
theorem gX3_swap_X3_kindNumbered : GoodIn wsX3_swap (wsV RX3 82 RX3 yX3_kindNumbered wsX3_kindNumbered) := goodIn_app (goodIn_of _ (by decide +kernel)) ggX3_swap_X3_kindNumbered
set_option maxRecDepth 20000 in
theorem ggX3_swap_X0_has : GoodIn wsX3_swap wsX0_has := goodIn_r _ [12, 13, 42, 43, 44, 45, 46, 47, 48] (by decide +kernel) (by decide +kernel)
set_option maxRecDepth 20000 in
theorem gX3_swap_X0_has_n101 : GoodIn wsX3_swap (wsX0_has) := ggX3_swap_X0_has
set_option maxRecDepth 20000 in
theorem ggX3_swap_X0_exchange : GoodIn wsX3_swap wsX0_exchange := goodIn_r _ [16, 17, 18, 19, 10, 20, 21, 22, 9, 11, 12, 13, 23, 24, 25, 26, 27, 42, 43, 44, 45, 46, 47, 48] (by decide +kernel) (by decide +kernel)
set_option maxRecDepth 20000 in
theorem gX3_swap_X0_exchange_n105 : GoodIn wsX3_swap (wsX0_exchange) := ggX3_swap_X0_exchange
theorem dX3_swap_0 : decode cX3_swap 0 = .ok (.aload_n 0, 1) := by decide +kernel
theorem dX3_swap_1 : decode cX3_swap 1 = .ok (.iload_n 1, 1) := by decide +kernel
theorem dX3_swap_2 : decode cX3_swap 2 = .ok (.invokevirtual 82, 3) := by decide +kernel
theorem dX3_swap_5 : decode cX3_swap 5 = .ok (.astore 4, 2) := by decide +kernel
theorem dX3_swap_7 : decode cX3_swap 7 = .ok (.aload 4, 2) := by decide +kernel
theorem dX3_swap_9 : decode cX3_swap 9 = .ok (.ifnull 21, 3) := by decide +kernel
theorem dX3_swap_12 : decode cX3_swap 12 = .ok (.aload 4, 2) := by decide +kernel
theorem dX3_swap_14 : decode cX3_swap 14 = .ok (.iload_n 2, 1) := by decide +kernel
theorem dX3_swap_15 : decode cX3_swap 15 = .ok (.invokevirtual 101, 3) := by decide +kernel
theorem dX3_swap_18 : decode cX3_swap 18 = .ok (.ifCond .eq 12, 3) := by decide +kernel
theorem dX3_swap_21 : decode cX3_swap 21 = .ok (.aload 4, 2) := by decide +kernel
theorem dX3_swap_23 : decode cX3_swap 23 = .ok (.iload_n 3, 1) := by decide +kernel
theorem dX3_swap_24 : decode cX3_swap 24 = .ok (.invokevirtual 101, 3) := by decide +kernel
theorem dX3_swap_27 : decode cX3_swap 27 = .ok (.ifCond .ne 5, 3) := by decide +kernel
theorem dX3_swap_30 : decode cX3_swap 30 = .ok (.iconst (-1), 1) := by decide +kernel
theorem dX3_swap_31 : decode cX3_swap 31 = .ok (.ireturn, 1) := by decide +kernel
theorem dX3_swap_32 : decode cX3_swap 32 = .ok (.aload 4, 2) := by decide +kernel
theorem dX3_swap_34 : decode cX3_swap 34 = .ok (.iload_n 2, 1) := by decide +kernel
theorem dX3_swap_35 : decode cX3_swap 35 = .ok (.iload_n 3, 1) := by decide +kernel
theorem dX3_swap_36 : decode cX3_swap 36 = .ok (.invokevirtual 105, 3) := by decide +kernel
theorem dX3_swap_39 : decode cX3_swap 39 = .ok (.iconst 1, 1) := by decide +kernel
theorem dX3_swap_40 : decode cX3_swap 40 = .ok (.ireturn, 1) := by decide +kernel
set_option maxRecDepth 20000 in
theorem ggX3_rule_X3_kindNumbered : GoodIn wsX3_rule wsX3_kindNumbered := goodIn_r _ [6, 7, 8, 9, 46, 47, 48, 49, 50, 51, 52, 53, 54, 55, 56, 57, 58, 59] (by decide +kernel) (by decide +kernel)
set_option maxRecDepth 20000 in
theorem gX3_rule_X3_kindNumbered : GoodIn wsX3_rule (wsV RX3 82 RX3 yX3_kindNumbered wsX3_kindNumbered) := goodIn_app (goodIn_of _ (by decide +kernel)) ggX3_rule_X3_kindNumbered
set_option maxRecDepth 20000 in
theorem ggX3_rule_X0_has : GoodIn wsX3_rule wsX0_has := goodIn_r _ [13, 14, 60, 61, 62, 63, 64, 65, 66] (by decide +kernel) (by decide +kernel)
set_option maxRecDepth 20000 in
theorem gX3_rule_X0_has_n101 : GoodIn wsX3_rule (wsX0_has) := ggX3_rule_X0_has
set_option maxRecDepth 20000 in
theorem ggX3_rule_X0_constantOf : GoodIn wsX3_rule wsX0_constantOf := goodIn_r _ [17, 18, 19, 10, 12, 11, 13, 14, 60, 61, 62, 63, 64, 65, 66] (by decide +kernel) (by decide +kernel)
set_option maxRecDepth 20000 in
theorem gX3_rule_X0_constantOf_n94 : GoodIn wsX3_rule (wsX0_constantOf) := ggX3_rule_X0_constantOf
set_option maxRecDepth 20000 in
theorem ggX3_rule_X3_askRule : GoodIn wsX3_rule wsX3_askRule := goodIn_r _ [23, 8, 24, 25, 11, 26, 27, 28, 29, 30, 31, 5, 32, 33, 46, 47, 48, 49, 50, 51, 52, 53, 54, 55, 56, 57, 58, 59, 60, 61, 62, 63, 64, 65, 66] (by decide +kernel) (by decide +kernel)
set_option maxRecDepth 20000 in
theorem gX3_rule_X3_askRule : GoodIn wsX3_rule (wsV RX3 109 RX3 yX3_askRule wsX3_askRule) := goodIn_app (goodIn_of _ (by decide +kernel)) ggX3_rule_X3_askRule
set_option maxRecDepth 20000 in
theorem ggX3_rule_X3_valueOf : GoodIn wsX3_rule wsX3_valueOf := goodIn_r _ [36, 37, 38, 5, 39, 40, 41, 42, 43, 44, 45, 33, 60, 61, 62, 63, 64, 65, 66] (by decide +kernel) (by decide +kernel)
set_option maxRecDepth 20000 in
theorem gX3_rule_X3_valueOf : GoodIn wsX3_rule (va_wsS RX3 113 yX3_valueOf wsX3_valueOf) := goodIn_app (goodIn_of _ (by decide +kernel)) ggX3_rule_X3_valueOf
theorem dX3_rule_0 : decode cX3_rule 0 = .ok (.aload_n 0, 1) := by decide +kernel
theorem dX3_rule_1 : decode cX3_rule 1 = .ok (.iload_n 1, 1) := by decide +kernel
theorem dX3_rule_2 : decode cX3_rule 2 = .ok (.invokevirtual 82, 3) := by decide +kernel
theorem dX3_rule_5 : decode cX3_rule 5 = .ok (.astore 5, 2) := by decide +kernel
theorem dX3_rule_7 : decode cX3_rule 7 = .ok (.aload 5, 2) := by decide +kernel
theorem dX3_rule_9 : decode cX3_rule 9 = .ok (.ifnull 12, 3) := by decide +kernel
theorem dX3_rule_12 : decode cX3_rule 12 = .ok (.aload 5, 2) := by decide +kernel
theorem dX3_rule_14 : decode cX3_rule 14 = .ok (.iload_n 2, 1) := by decide +kernel
theorem dX3_rule_15 : decode cX3_rule 15 = .ok (.invokevirtual 101, 3) := by decide +kernel
theorem dX3_rule_18 : decode cX3_rule 18 = .ok (.ifCond .ne 5, 3) := by decide +kernel
theorem dX3_rule_21 : decode cX3_rule 21 = .ok (.iconst (-1), 1) := by decide +kernel
theorem dX3_rule_22 : decode cX3_rule 22 = .ok (.ireturn, 1) := by decide +kernel
theorem dX3_rule_23 : decode cX3_rule 23 = .ok (.aload 5, 2) := by decide +kernel
theorem dX3_rule_25 : decode cX3_rule 25 = .ok (.iload_n 2, 1) := by decide +kernel
theorem dX3_rule_26 : decode cX3_rule 26 = .ok (.invokevirtual 94, 3) := by decide +kernel
theorem dX3_rule_29 : decode cX3_rule 29 = .ok (.istore 6, 2) := by decide +kernel
theorem dX3_rule_31 : decode cX3_rule 31 = .ok (.aload_n 0, 1) := by decide +kernel
theorem dX3_rule_32 : decode cX3_rule 32 = .ok (.aload 5, 2) := by decide +kernel
theorem dX3_rule_34 : decode cX3_rule 34 = .ok (.iload 6, 2) := by decide +kernel
theorem dX3_rule_36 : decode cX3_rule 36 = .ok (.lload_n 3, 1) := by decide +kernel
theorem dX3_rule_37 : decode cX3_rule 37 = .ok (.invokevirtual 109, 3) := by decide +kernel
theorem dX3_rule_40 : decode cX3_rule 40 = .ok (.istore 7, 2) := by decide +kernel
theorem dX3_rule_42 : decode cX3_rule 42 = .ok (.iload 7, 2) := by decide +kernel
theorem dX3_rule_44 : decode cX3_rule 44 = .ok (.iconst 1, 1) := by decide +kernel
theorem dX3_rule_45 : decode cX3_rule 45 = .ok (.if_icmp .ne 15, 3) := by decide +kernel
theorem dX3_rule_48 : decode cX3_rule 48 = .ok (.aload_n 0, 1) := by decide +kernel
theorem dX3_rule_49 : decode cX3_rule 49 = .ok (.aload 5, 2) := by decide +kernel
theorem dX3_rule_51 : decode cX3_rule 51 = .ok (.iload 6, 2) := by decide +kernel
theorem dX3_rule_53 : decode cX3_rule 53 = .ok (.lload_n 3, 1) := by decide +kernel
theorem dX3_rule_54 : decode cX3_rule 54 = .ok (.invokestatic 113, 3) := by decide +kernel
theorem dX3_rule_57 : decode cX3_rule 57 = .ok (.putfield 52, 3) := by decide +kernel
theorem dX3_rule_60 : decode cX3_rule 60 = .ok (.iload 7, 2) := by decide +kernel
theorem dX3_rule_62 : decode cX3_rule 62 = .ok (.ireturn, 1) := by decide +kernel
theorem dX3_result_0 : decode cX3_result 0 = .ok (.aload_n 0, 1) := by decide +kernel
theorem dX3_result_1 : decode cX3_result 1 = .ok (.getfield 52, 3) := by decide +kernel
theorem dX3_result_4 : decode cX3_result 4 = .ok (.lreturn, 1) := by decide +kernel
set_option maxRecDepth 20000 in
theorem ggX3_fail_X3_kindNumbered : GoodIn wsX3_fail wsX3_kindNumbered := goodIn_r _ [5, 6, 7, 8, 19, 20, 21, 22, 23, 24, 25, 26, 27, 28, 29, 30, 31, 32] (by decide +kernel) (by decide +kernel)
set_option maxRecDepth 20000 in
theorem gX3_fail_X3_kindNumbered : GoodIn wsX3_fail (wsV RX3 82 RX3 yX3_kindNumbered wsX3_kindNumbered) := goodIn_app (goodIn_of _ (by decide +kernel)) ggX3_fail_X3_kindNumbered
set_option maxRecDepth 20000 in
theorem ggX3_fail_X3_oneIf : GoodIn wsX3_fail wsX3_oneIf := goodIn_r _ [11] (by decide +kernel) (by decide +kernel)
set_option maxRecDepth 20000 in
theorem gX3_fail_X3_oneIf : GoodIn wsX3_fail (va_wsS RX3 124 yX3_oneIf wsX3_oneIf) := goodIn_app (goodIn_of _ (by decide +kernel)) ggX3_fail_X3_oneIf
theorem dX3_fail_0 : decode cX3_fail 0 = .ok (.aload_n 0, 1) := by decide +kernel
theorem dX3_fail_1 : decode cX3_fail 1 = .ok (.iload_n 1, 1) := by decide +kernel
theorem dX3_fail_2 : decode cX3_fail 2 = .ok (.invokevirtual 82, 3) := by decide +kernel
theorem dX3_fail_5 : decode cX3_fail 5 = .ok (.astore_n 3, 1) := by decide +kernel
theorem dX3_fail_6 : decode cX3_fail 6 = .ok (.aload_n 3, 1) := by decide +kernel
theorem dX3_fail_7 : decode cX3_fail 7 = .ok (.ifnonnull 5, 3) := by decide +kernel
theorem dX3_fail_10 : decode cX3_fail 10 = .ok (.iconst (-1), 1) := by decide +kernel
theorem dX3_fail_11 : decode cX3_fail 11 = .ok (.ireturn, 1) := by decide +kernel
theorem dX3_fail_12 : decode cX3_fail 12 = .ok (.aload_n 3, 1) := by decide +kernel
theorem dX3_fail_13 : decode cX3_fail 13 = .ok (.getfield 117, 3) := by decide +kernel
theorem dX3_fail_16 : decode cX3_fail 16 = .ok (.ifCond .eq 6, 3) := by decide +kernel
theorem dX3_fail_19 : decode cX3_fail 19 = .ok (.bipush (-3), 2) := by decide +kernel
theorem dX3_fail_21 : decode cX3_fail 21 = .ok (.ireturn, 1) := by decide +kernel
theorem dX3_fail_22 : decode cX3_fail 22 = .ok (.aload_n 3, 1) := by decide +kernel
theorem dX3_fail_23 : decode cX3_fail 23 = .ok (.getfield 120, 3) := by decide +kernel
theorem dX3_fail_26 : decode cX3_fail 26 = .ok (.invokestatic 124, 3) := by decide +kernel
theorem dX3_fail_29 : decode cX3_fail 29 = .ok (.istore 4, 2) := by decide +kernel
theorem dX3_fail_31 : decode cX3_fail 31 = .ok (.aload_n 3, 1) := by decide +kernel
theorem dX3_fail_32 : decode cX3_fail 32 = .ok (.iload_n 2, 1) := by decide +kernel
theorem dX3_fail_33 : decode cX3_fail 33 = .ok (.putfield 120, 3) := by decide +kernel
theorem dX3_fail_36 : decode cX3_fail 36 = .ok (.iload 4, 2) := by decide +kernel
theorem dX3_fail_38 : decode cX3_fail 38 = .ok (.ireturn, 1) := by decide +kernel
set_option maxRecDepth 20000 in
theorem ggX3_started_X3_kindNumbered : GoodIn wsX3_started wsX3_kindNumbered := goodIn_r _ [5, 6, 7, 8, 16, 17, 18, 19, 20, 21, 22, 23, 24, 25, 26, 27, 28, 29] (by decide +kernel) (by decide +kernel)
set_option maxRecDepth 20000 in
theorem gX3_started_X3_kindNumbered : GoodIn wsX3_started (wsV RX3 82 RX3 yX3_kindNumbered wsX3_kindNumbered) := goodIn_app (goodIn_of _ (by decide +kernel)) ggX3_started_X3_kindNumbered
theorem dX3_started_0 : decode cX3_started 0 = .ok (.aload_n 0, 1) := by decide +kernel
theorem dX3_started_1 : decode cX3_started 1 = .ok (.iload_n 1, 1) := by decide +kernel
theorem dX3_started_2 : decode cX3_started 2 = .ok (.invokevirtual 82, 3) := by decide +kernel
theorem dX3_started_5 : decode cX3_started 5 = .ok (.astore_n 2, 1) := by decide +kernel
theorem dX3_started_6 : decode cX3_started 6 = .ok (.aload_n 2, 1) := by decide +kernel
theorem dX3_started_7 : decode cX3_started 7 = .ok (.ifnonnull 7, 3) := by decide +kernel
theorem dX3_started_10 : decode cX3_started 10 = .ok (.iconst (-1), 1) := by decide +kernel
theorem dX3_started_11 : decode cX3_started 11 = .ok (.goto 7, 3) := by decide +kernel
theorem dX3_started_14 : decode cX3_started 14 = .ok (.aload_n 2, 1) := by decide +kernel
theorem dX3_started_15 : decode cX3_started 15 = .ok (.getfield 117, 3) := by decide +kernel
theorem dX3_started_18 : decode cX3_started 18 = .ok (.ireturn, 1) := by decide +kernel
set_option maxRecDepth 20000 in
theorem ggX3_clear_X3_setNumbered : GoodIn wsX3_clear wsX3_setNumbered := goodIn_r _ [5, 6, 30, 31, 32, 33, 34, 35, 36, 37, 38, 39, 40, 41, 42, 43] (by decide +kernel) (by decide +kernel)
set_option maxRecDepth 20000 in
theorem gX3_clear_X3_setNumbered : GoodIn wsX3_clear (wsV RX3 128 RX3 yX3_setNumbered wsX3_setNumbered) := goodIn_app (goodIn_of _ (by decide +kernel)) ggX3_clear_X3_setNumbered
set_option maxRecDepth 20000 in
theorem ggX3_clear_X3_kindNumbered : GoodIn wsX3_clear wsX3_kindNumbered := goodIn_r _ [10, 11, 12, 13, 30, 31, 32, 33, 34, 35, 36, 37, 38, 39, 40, 41, 42, 43] (by decide +kernel) (by decide +kernel)
set_option maxRecDepth 20000 in
theorem gX3_clear_X3_kindNumbered : GoodIn wsX3_clear (wsV RX3 82 RX3 yX3_kindNumbered wsX3_kindNumbered) := goodIn_app (goodIn_of _ (by decide +kernel)) ggX3_clear_X3_kindNumbered
set_option maxRecDepth 20000 in
theorem ggX3_clear_X1_size : GoodIn wsX3_clear wsX1_size := goodIn_r _ [17, 18, 19, 20, 21, 22, 23, 24, 25, 44, 45] (by decide +kernel) (by decide +kernel)
set_option maxRecDepth 20000 in
theorem gX3_clear_X1_size_n132 : GoodIn wsX3_clear (wsX1_size) := ggX3_clear_X1_size
set_option maxRecDepth 20000 in
theorem ggX3_clear_X1_become : GoodIn wsX3_clear wsX1_become := goodIn_r _ [28, 29, 18, 44, 45] (by decide +kernel) (by decide +kernel)
set_option maxRecDepth 20000 in
theorem gX3_clear_X1_become_n136 : GoodIn wsX3_clear (wsX1_become) := ggX3_clear_X1_become
theorem dX3_clear_0 : decode cX3_clear 0 = .ok (.aload_n 0, 1) := by decide +kernel
theorem dX3_clear_1 : decode cX3_clear 1 = .ok (.iload_n 1, 1) := by decide +kernel
theorem dX3_clear_2 : decode cX3_clear 2 = .ok (.invokevirtual 128, 3) := by decide +kernel
theorem dX3_clear_5 : decode cX3_clear 5 = .ok (.astore_n 3, 1) := by decide +kernel
theorem dX3_clear_6 : decode cX3_clear 6 = .ok (.aload_n 0, 1) := by decide +kernel
theorem dX3_clear_7 : decode cX3_clear 7 = .ok (.iload_n 2, 1) := by decide +kernel
theorem dX3_clear_8 : decode cX3_clear 8 = .ok (.invokevirtual 82, 3) := by decide +kernel
theorem dX3_clear_11 : decode cX3_clear 11 = .ok (.astore 4, 2) := by decide +kernel
theorem dX3_clear_13 : decode cX3_clear 13 = .ok (.aload_n 3, 1) := by decide +kernel
theorem dX3_clear_14 : decode cX3_clear 14 = .ok (.ifnull 8, 3) := by decide +kernel
theorem dX3_clear_17 : decode cX3_clear 17 = .ok (.aload 4, 2) := by decide +kernel
theorem dX3_clear_19 : decode cX3_clear 19 = .ok (.ifnonnull 5, 3) := by decide +kernel
theorem dX3_clear_22 : decode cX3_clear 22 = .ok (.iconst (-1), 1) := by decide +kernel
theorem dX3_clear_23 : decode cX3_clear 23 = .ok (.ireturn, 1) := by decide +kernel
theorem dX3_clear_24 : decode cX3_clear 24 = .ok (.aload_n 3, 1) := by decide +kernel
theorem dX3_clear_25 : decode cX3_clear 25 = .ok (.invokevirtual 132, 3) := by decide +kernel
theorem dX3_clear_28 : decode cX3_clear 28 = .ok (.istore 5, 2) := by decide +kernel
theorem dX3_clear_30 : decode cX3_clear 30 = .ok (.aload_n 3, 1) := by decide +kernel
theorem dX3_clear_31 : decode cX3_clear 31 = .ok (.aload 4, 2) := by decide +kernel
theorem dX3_clear_33 : decode cX3_clear 33 = .ok (.iconst 0, 1) := by decide +kernel
theorem dX3_clear_34 : decode cX3_clear 34 = .ok (.invokevirtual 136, 3) := by decide +kernel
theorem dX3_clear_37 : decode cX3_clear 37 = .ok (.iload 5, 2) := by decide +kernel
theorem dX3_clear_39 : decode cX3_clear 39 = .ok (.ireturn, 1) := by decide +kernel
set_option maxRecDepth 20000 in
theorem ggX3_put_X3_setNumbered : GoodIn wsX3_put wsX3_setNumbered := goodIn_r _ [5, 6, 28, 29, 30, 31, 32, 33, 34, 35, 36, 37, 38, 39, 40, 41] (by decide +kernel) (by decide +kernel)
set_option maxRecDepth 20000 in
theorem gX3_put_X3_setNumbered : GoodIn wsX3_put (wsV RX3 128 RX3 yX3_setNumbered wsX3_setNumbered) := goodIn_app (goodIn_of _ (by decide +kernel)) ggX3_put_X3_setNumbered
set_option maxRecDepth 20000 in
theorem ggX3_put_X0_has : GoodIn wsX3_put wsX0_has := goodIn_r _ [10, 11, 42, 43, 44, 45, 46, 47, 48] (by decide +kernel) (by decide +kernel)
set_option maxRecDepth 20000 in
theorem gX3_put_X0_has_n101 : GoodIn wsX3_put (wsX0_has) := ggX3_put_X0_has
set_option maxRecDepth 20000 in
theorem ggX3_put_X0_constantOf : GoodIn wsX3_put wsX0_constantOf := goodIn_r _ [14, 15, 16, 7, 9, 8, 10, 11, 42, 43, 44, 45, 46, 47, 48] (by decide +kernel) (by decide +kernel)
set_option maxRecDepth 20000 in
theorem gX3_put_X0_constantOf_n94 : GoodIn wsX3_put (wsX0_constantOf) := ggX3_put_X0_constantOf
set_option maxRecDepth 20000 in
theorem ggX3_put_X1_holds : GoodIn wsX3_put wsX1_holds := goodIn_r _ [20, 21, 22, 7, 8, 9, 10, 11, 26, 27, 42, 43, 44, 45, 46, 47, 48] (by decide +kernel) (by decide +kernel)
set_option maxRecDepth 20000 in
theorem gX3_put_X1_holds_n143 : GoodIn wsX3_put (wsX1_holds) := ggX3_put_X1_holds
set_option maxRecDepth 20000 in
theorem ggX3_put_X3_oneIf : GoodIn wsX3_put wsX3_oneIf := goodIn_r _ [25] (by decide +kernel) (by decide +kernel)
set_option maxRecDepth 20000 in
theorem gX3_put_X3_oneIf : GoodIn wsX3_put (va_wsS RX3 124 yX3_oneIf wsX3_oneIf) := goodIn_app (goodIn_of _ (by decide +kernel)) ggX3_put_X3_oneIf
theorem dX3_put_0 : decode cX3_put 0 = .ok (.aload_n 0, 1) := by decide +kernel
theorem dX3_put_1 : decode cX3_put 1 = .ok (.iload_n 1, 1) := by decide +kernel
theorem dX3_put_2 : decode cX3_put 2 = .ok (.invokevirtual 128, 3) := by decide +kernel
theorem dX3_put_5 : decode cX3_put 5 = .ok (.astore 4, 2) := by decide +kernel
theorem dX3_put_7 : decode cX3_put 7 = .ok (.aload 4, 2) := by decide +kernel
theorem dX3_put_9 : decode cX3_put 9 = .ok (.ifnull 15, 3) := by decide +kernel
theorem dX3_put_12 : decode cX3_put 12 = .ok (.aload 4, 2) := by decide +kernel
theorem dX3_put_14 : decode cX3_put 14 = .ok (.getfield 140, 3) := by decide +kernel
theorem dX3_put_17 : decode cX3_put 17 = .ok (.iload_n 2, 1) := by decide +kernel
theorem dX3_put_18 : decode cX3_put 18 = .ok (.invokevirtual 101, 3) := by decide +kernel
theorem dX3_put_21 : decode cX3_put 21 = .ok (.ifCond .ne 5, 3) := by decide +kernel
theorem dX3_put_24 : decode cX3_put 24 = .ok (.iconst (-1), 1) := by decide +kernel
theorem dX3_put_25 : decode cX3_put 25 = .ok (.ireturn, 1) := by decide +kernel
theorem dX3_put_26 : decode cX3_put 26 = .ok (.aload 4, 2) := by decide +kernel
theorem dX3_put_28 : decode cX3_put 28 = .ok (.getfield 140, 3) := by decide +kernel
theorem dX3_put_31 : decode cX3_put 31 = .ok (.iload_n 2, 1) := by decide +kernel
theorem dX3_put_32 : decode cX3_put 32 = .ok (.invokevirtual 94, 3) := by decide +kernel
theorem dX3_put_35 : decode cX3_put 35 = .ok (.istore 5, 2) := by decide +kernel
theorem dX3_put_37 : decode cX3_put 37 = .ok (.aload 4, 2) := by decide +kernel
theorem dX3_put_39 : decode cX3_put 39 = .ok (.iload 5, 2) := by decide +kernel
theorem dX3_put_41 : decode cX3_put 41 = .ok (.invokevirtual 143, 3) := by decide +kernel
theorem dX3_put_44 : decode cX3_put 44 = .ok (.invokestatic 124, 3) := by decide +kernel
theorem dX3_put_47 : decode cX3_put 47 = .ok (.istore 6, 2) := by decide +kernel
theorem dX3_put_49 : decode cX3_put 49 = .ok (.iconst 1, 1) := by decide +kernel
theorem dX3_put_50 : decode cX3_put 50 = .ok (.iload 5, 2) := by decide +kernel
theorem dX3_put_52 : decode cX3_put 52 = .ok (.ishl, 1) := by decide +kernel
theorem dX3_put_53 : decode cX3_put 53 = .ok (.istore 7, 2) := by decide +kernel
theorem dX3_put_55 : decode cX3_put 55 = .ok (.aload 4, 2) := by decide +kernel
theorem dX3_put_57 : decode cX3_put 57 = .ok (.iload_n 3, 1) := by decide +kernel
theorem dX3_put_58 : decode cX3_put 58 = .ok (.ifCond .eq 14, 3) := by decide +kernel
theorem dX3_put_61 : decode cX3_put 61 = .ok (.aload 4, 2) := by decide +kernel
theorem dX3_put_63 : decode cX3_put 63 = .ok (.getfield 146, 3) := by decide +kernel
theorem dX3_put_66 : decode cX3_put 66 = .ok (.iload 7, 2) := by decide +kernel
theorem dX3_put_68 : decode cX3_put 68 = .ok (.ior, 1) := by decide +kernel
theorem dX3_put_69 : decode cX3_put 69 = .ok (.goto 13, 3) := by decide +kernel
theorem dX3_put_72 : decode cX3_put 72 = .ok (.aload 4, 2) := by decide +kernel
theorem dX3_put_74 : decode cX3_put 74 = .ok (.getfield 146, 3) := by decide +kernel
theorem dX3_put_77 : decode cX3_put 77 = .ok (.iload 7, 2) := by decide +kernel
theorem dX3_put_79 : decode cX3_put 79 = .ok (.iconst (-1), 1) := by decide +kernel
theorem dX3_put_80 : decode cX3_put 80 = .ok (.ixor, 1) := by decide +kernel
theorem dX3_put_81 : decode cX3_put 81 = .ok (.iand, 1) := by decide +kernel
theorem dX3_put_82 : decode cX3_put 82 = .ok (.putfield 146, 3) := by decide +kernel
theorem dX3_put_85 : decode cX3_put 85 = .ok (.iload 6, 2) := by decide +kernel
theorem dX3_put_87 : decode cX3_put 87 = .ok (.ireturn, 1) := by decide +kernel
set_option maxRecDepth 20000 in
theorem ggX3_join_X3_setNumbered : GoodIn wsX3_join wsX3_setNumbered := goodIn_r _ [5, 6, 28, 29, 30, 31, 32, 33, 34, 35, 36, 37, 38, 39, 40, 41] (by decide +kernel) (by decide +kernel)
set_option maxRecDepth 20000 in
theorem gX3_join_X3_setNumbered : GoodIn wsX3_join (wsV RX3 128 RX3 yX3_setNumbered wsX3_setNumbered) := goodIn_app (goodIn_of _ (by decide +kernel)) ggX3_join_X3_setNumbered
set_option maxRecDepth 20000 in
theorem ggX3_join_X3_joined : GoodIn wsX3_join wsX3_joined := goodIn_r _ [9, 26, 27, 42, 43, 44, 45, 46, 47, 48] (by decide +kernel) (by decide +kernel)
set_option maxRecDepth 20000 in
theorem gX3_join_X3_joined : GoodIn wsX3_join (va_wsS RX3 149 yX3_joined wsX3_joined) := goodIn_app (goodIn_of _ (by decide +kernel)) ggX3_join_X3_joined
set_option maxRecDepth 20000 in
theorem ggX3_join_X1_become : GoodIn wsX3_join wsX1_become := goodIn_r _ [13, 14, 15, 26, 27] (by decide +kernel) (by decide +kernel)
set_option maxRecDepth 20000 in
theorem gX3_join_X1_become_n136 : GoodIn wsX3_join (wsX1_become) := ggX3_join_X1_become
set_option maxRecDepth 20000 in
theorem ggX3_join_X1_size : GoodIn wsX3_join wsX1_size := goodIn_r _ [18, 15, 19, 20, 21, 22, 23, 24, 25, 26, 27] (by decide +kernel) (by decide +kernel)
set_option maxRecDepth 20000 in
theorem gX3_join_X1_size_n132 : GoodIn wsX3_join (wsX1_size) := ggX3_join_X1_size
theorem dX3_join_0 : decode cX3_join 0 = .ok (.aload_n 0, 1) := by decide +kernel
theorem dX3_join_1 : decode cX3_join 1 = .ok (.iload_n 2, 1) := by decide +kernel
theorem dX3_join_2 : decode cX3_join 2 = .ok (.invokevirtual 128, 3) := by decide +kernel
theorem dX3_join_5 : decode cX3_join 5 = .ok (.astore 5, 2) := by decide +kernel
theorem dX3_join_7 : decode cX3_join 7 = .ok (.aload_n 0, 1) := by decide +kernel
theorem dX3_join_8 : decode cX3_join 8 = .ok (.iload_n 3, 1) := by decide +kernel
theorem dX3_join_9 : decode cX3_join 9 = .ok (.invokevirtual 128, 3) := by decide +kernel
theorem dX3_join_12 : decode cX3_join 12 = .ok (.astore 6, 2) := by decide +kernel
theorem dX3_join_14 : decode cX3_join 14 = .ok (.aload_n 0, 1) := by decide +kernel
theorem dX3_join_15 : decode cX3_join 15 = .ok (.iload 4, 2) := by decide +kernel
theorem dX3_join_17 : decode cX3_join 17 = .ok (.invokevirtual 128, 3) := by decide +kernel
theorem dX3_join_20 : decode cX3_join 20 = .ok (.astore 7, 2) := by decide +kernel
theorem dX3_join_22 : decode cX3_join 22 = .ok (.iload_n 1, 1) := by decide +kernel
theorem dX3_join_23 : decode cX3_join 23 = .ok (.ifCond .lt 23, 3) := by decide +kernel
theorem dX3_join_26 : decode cX3_join 26 = .ok (.iload_n 1, 1) := by decide +kernel
theorem dX3_join_27 : decode cX3_join 27 = .ok (.iconst 3, 1) := by decide +kernel
theorem dX3_join_28 : decode cX3_join 28 = .ok (.if_icmp .gt 18, 3) := by decide +kernel
theorem dX3_join_31 : decode cX3_join 31 = .ok (.aload 5, 2) := by decide +kernel
theorem dX3_join_33 : decode cX3_join 33 = .ok (.ifnull 13, 3) := by decide +kernel
theorem dX3_join_36 : decode cX3_join 36 = .ok (.aload 6, 2) := by decide +kernel
theorem dX3_join_38 : decode cX3_join 38 = .ok (.ifnull 8, 3) := by decide +kernel
theorem dX3_join_41 : decode cX3_join 41 = .ok (.aload 7, 2) := by decide +kernel
theorem dX3_join_43 : decode cX3_join 43 = .ok (.ifnonnull 5, 3) := by decide +kernel
theorem dX3_join_46 : decode cX3_join 46 = .ok (.iconst (-1), 1) := by decide +kernel
theorem dX3_join_47 : decode cX3_join 47 = .ok (.ireturn, 1) := by decide +kernel
theorem dX3_join_48 : decode cX3_join 48 = .ok (.iload_n 1, 1) := by decide +kernel
theorem dX3_join_49 : decode cX3_join 49 = .ok (.iconst 3, 1) := by decide +kernel
theorem dX3_join_50 : decode cX3_join 50 = .ok (.if_icmp .eq 19, 3) := by decide +kernel
theorem dX3_join_53 : decode cX3_join 53 = .ok (.aload 5, 2) := by decide +kernel
theorem dX3_join_55 : decode cX3_join 55 = .ok (.getfield 140, 3) := by decide +kernel
theorem dX3_join_58 : decode cX3_join 58 = .ok (.aload 6, 2) := by decide +kernel
theorem dX3_join_60 : decode cX3_join 60 = .ok (.getfield 140, 3) := by decide +kernel
theorem dX3_join_63 : decode cX3_join 63 = .ok (.if_acmp .eq 6, 3) := by decide +kernel
theorem dX3_join_66 : decode cX3_join 66 = .ok (.bipush (-3), 2) := by decide +kernel
theorem dX3_join_68 : decode cX3_join 68 = .ok (.ireturn, 1) := by decide +kernel
theorem dX3_join_69 : decode cX3_join 69 = .ok (.aload 7, 2) := by decide +kernel
theorem dX3_join_71 : decode cX3_join 71 = .ok (.aload 5, 2) := by decide +kernel
theorem dX3_join_73 : decode cX3_join 73 = .ok (.getfield 140, 3) := by decide +kernel
theorem dX3_join_76 : decode cX3_join 76 = .ok (.iload_n 1, 1) := by decide +kernel
theorem dX3_join_77 : decode cX3_join 77 = .ok (.aload 5, 2) := by decide +kernel
theorem dX3_join_79 : decode cX3_join 79 = .ok (.aload 6, 2) := by decide +kernel
theorem dX3_join_81 : decode cX3_join 81 = .ok (.invokestatic 149, 3) := by decide +kernel
theorem dX3_join_84 : decode cX3_join 84 = .ok (.invokevirtual 136, 3) := by decide +kernel
theorem dX3_join_87 : decode cX3_join 87 = .ok (.aload 7, 2) := by decide +kernel
theorem dX3_join_89 : decode cX3_join 89 = .ok (.invokevirtual 132, 3) := by decide +kernel
theorem dX3_join_92 : decode cX3_join 92 = .ok (.ireturn, 1) := by decide +kernel
set_option maxRecDepth 20000 in
theorem ggX3_member_X3_setNumbered : GoodIn wsX3_member wsX3_setNumbered := goodIn_r _ [5, 6, 32, 33, 34, 35, 36, 37, 38, 39, 40, 41, 42, 43, 44, 45] (by decide +kernel) (by decide +kernel)
set_option maxRecDepth 20000 in
theorem gX3_member_X3_setNumbered : GoodIn wsX3_member (wsV RX3 128 RX3 yX3_setNumbered wsX3_setNumbered) := goodIn_app (goodIn_of _ (by decide +kernel)) ggX3_member_X3_setNumbered
set_option maxRecDepth 20000 in
theorem ggX3_member_X0_constantOf : GoodIn wsX3_member wsX0_constantOf := goodIn_r _ [10, 11, 12, 13, 14, 8, 15, 16, 25, 26, 27, 28, 29, 30, 31] (by decide +kernel) (by decide +kernel)
set_option maxRecDepth 20000 in
theorem gX3_member_X0_constantOf_n94 : GoodIn wsX3_member (wsX0_constantOf) := ggX3_member_X0_constantOf
set_option maxRecDepth 20000 in
theorem ggX3_member_X1_holds : GoodIn wsX3_member wsX1_holds := goodIn_r _ [20, 21, 22, 13, 8, 14, 15, 16, 23, 24, 25, 26, 27, 28, 29, 30, 31] (by decide +kernel) (by decide +kernel)
set_option maxRecDepth 20000 in
theorem gX3_member_X1_holds_n143 : GoodIn wsX3_member (wsX1_holds) := ggX3_member_X1_holds
theorem dX3_member_0 : decode cX3_member 0 = .ok (.aload_n 0, 1) := by decide +kernel
theorem dX3_member_1 : decode cX3_member 1 = .ok (.iload_n 1, 1) := by decide +kernel
theorem dX3_member_2 : decode cX3_member 2 = .ok (.invokevirtual 128, 3) := by decide +kernel
theorem dX3_member_5 : decode cX3_member 5 = .ok (.astore_n 3, 1) := by decide +kernel
theorem dX3_member_6 : decode cX3_member 6 = .ok (.aload_n 3, 1) := by decide +kernel
theorem dX3_member_7 : decode cX3_member 7 = .ok (.ifnonnull 5, 3) := by decide +kernel
theorem dX3_member_10 : decode cX3_member 10 = .ok (.iconst (-1), 1) := by decide +kernel
theorem dX3_member_11 : decode cX3_member 11 = .ok (.ireturn, 1) := by decide +kernel
theorem dX3_member_12 : decode cX3_member 12 = .ok (.iconst 0, 1) := by decide +kernel
theorem dX3_member_13 : decode cX3_member 13 = .ok (.istore 4, 2) := by decide +kernel
theorem dX3_member_15 : decode cX3_member 15 = .ok (.iconst 0, 1) := by decide +kernel
theorem dX3_member_16 : decode cX3_member 16 = .ok (.istore 5, 2) := by decide +kernel
theorem dX3_member_18 : decode cX3_member 18 = .ok (.iload 5, 2) := by decide +kernel
theorem dX3_member_20 : decode cX3_member 20 = .ok (.aload_n 3, 1) := by decide +kernel
theorem dX3_member_21 : decode cX3_member 21 = .ok (.getfield 140, 3) := by decide +kernel
theorem dX3_member_24 : decode cX3_member 24 = .ok (.getfield 153, 3) := by decide +kernel
theorem dX3_member_27 : decode cX3_member 27 = .ok (.if_icmp .ge 37, 3) := by decide +kernel
theorem dX3_member_30 : decode cX3_member 30 = .ok (.aload_n 3, 1) := by decide +kernel
theorem dX3_member_31 : decode cX3_member 31 = .ok (.aload_n 3, 1) := by decide +kernel
theorem dX3_member_32 : decode cX3_member 32 = .ok (.getfield 140, 3) := by decide +kernel
theorem dX3_member_35 : decode cX3_member 35 = .ok (.iload 5, 2) := by decide +kernel
theorem dX3_member_37 : decode cX3_member 37 = .ok (.invokevirtual 94, 3) := by decide +kernel
theorem dX3_member_40 : decode cX3_member 40 = .ok (.invokevirtual 143, 3) := by decide +kernel
theorem dX3_member_43 : decode cX3_member 43 = .ok (.ifCond .eq 15, 3) := by decide +kernel
theorem dX3_member_46 : decode cX3_member 46 = .ok (.iload 4, 2) := by decide +kernel
theorem dX3_member_48 : decode cX3_member 48 = .ok (.iload_n 2, 1) := by decide +kernel
theorem dX3_member_49 : decode cX3_member 49 = .ok (.if_icmp .ne 6, 3) := by decide +kernel
theorem dX3_member_52 : decode cX3_member 52 = .ok (.iload 5, 2) := by decide +kernel
theorem dX3_member_54 : decode cX3_member 54 = .ok (.ireturn, 1) := by decide +kernel
theorem dX3_member_55 : decode cX3_member 55 = .ok (.iinc 4 1, 3) := by decide +kernel
theorem dX3_member_58 : decode cX3_member 58 = .ok (.iinc 5 1, 3) := by decide +kernel
theorem dX3_member_61 : decode cX3_member 61 = .ok (.goto (-43), 3) := by decide +kernel
theorem dX3_member_64 : decode cX3_member 64 = .ok (.bipush (-4), 2) := by decide +kernel
theorem dX3_member_66 : decode cX3_member 66 = .ok (.ireturn, 1) := by decide +kernel
set_option maxRecDepth 20000 in
theorem ggX3_about_X3_setNumbered : GoodIn wsX3_about wsX3_setNumbered := goodIn_r _ [5, 6, 28, 29, 30, 31, 32, 33, 34, 35, 36, 37, 38, 39, 40, 41] (by decide +kernel) (by decide +kernel)
set_option maxRecDepth 20000 in
theorem gX3_about_X3_setNumbered : GoodIn wsX3_about (wsV RX3 128 RX3 yX3_setNumbered wsX3_setNumbered) := goodIn_app (goodIn_of _ (by decide +kernel)) ggX3_about_X3_setNumbered
set_option maxRecDepth 20000 in
theorem ggX3_about_X1_size : GoodIn wsX3_about wsX1_size := goodIn_r _ [10, 11, 12, 13, 14, 15, 16, 17, 18, 19, 20] (by decide +kernel) (by decide +kernel)
set_option maxRecDepth 20000 in
theorem gX3_about_X1_size_n132 : GoodIn wsX3_about (wsX1_size) := ggX3_about_X1_size
theorem dX3_about_0 : decode cX3_about 0 = .ok (.aload_n 0, 1) := by decide +kernel
theorem dX3_about_1 : decode cX3_about 1 = .ok (.iload_n 1, 1) := by decide +kernel
theorem dX3_about_2 : decode cX3_about 2 = .ok (.invokevirtual 128, 3) := by decide +kernel
theorem dX3_about_5 : decode cX3_about 5 = .ok (.astore_n 3, 1) := by decide +kernel
theorem dX3_about_6 : decode cX3_about 6 = .ok (.aload_n 3, 1) := by decide +kernel
theorem dX3_about_7 : decode cX3_about 7 = .ok (.ifnonnull 5, 3) := by decide +kernel
theorem dX3_about_10 : decode cX3_about 10 = .ok (.iconst (-1), 1) := by decide +kernel
theorem dX3_about_11 : decode cX3_about 11 = .ok (.ireturn, 1) := by decide +kernel
theorem dX3_about_12 : decode cX3_about 12 = .ok (.iload_n 2, 1) := by decide +kernel
theorem dX3_about_13 : decode cX3_about 13 = .ok (.lookupswitch 40 #[(0, 27), (1, 32)], 27) := by decide +kernel
theorem dX3_about_40 : decode cX3_about 40 = .ok (.aload_n 3, 1) := by decide +kernel
theorem dX3_about_41 : decode cX3_about 41 = .ok (.invokevirtual 132, 3) := by decide +kernel
theorem dX3_about_44 : decode cX3_about 44 = .ok (.ireturn, 1) := by decide +kernel
theorem dX3_about_45 : decode cX3_about 45 = .ok (.aload_n 3, 1) := by decide +kernel
theorem dX3_about_46 : decode cX3_about 46 = .ok (.getfield 140, 3) := by decide +kernel
theorem dX3_about_49 : decode cX3_about 49 = .ok (.getfield 155, 3) := by decide +kernel
theorem dX3_about_52 : decode cX3_about 52 = .ok (.ireturn, 1) := by decide +kernel
theorem dX3_about_53 : decode cX3_about 53 = .ok (.iconst (-1), 1) := by decide +kernel
theorem dX3_about_54 : decode cX3_about 54 = .ok (.ireturn, 1) := by decide +kernel
set_option maxRecDepth 20000 in
theorem ggX3_record_X3_tableNumbered : GoodIn wsX3_record wsX3_tableNumbered := goodIn_r _ [6, 7, 8, 52, 53, 54, 55, 56, 57, 58, 59, 60, 61, 62, 63, 64, 65] (by decide +kernel) (by decide +kernel)
set_option maxRecDepth 20000 in
theorem gX3_record_X3_tableNumbered : GoodIn wsX3_record (wsV RX3 158 RX3 yX3_tableNumbered wsX3_tableNumbered) := goodIn_app (goodIn_of _ (by decide +kernel)) ggX3_record_X3_tableNumbered
set_option maxRecDepth 20000 in
theorem ggX3_record_X3_toCell : GoodIn wsX3_record wsX3_toCell := goodIn_r _ [12, 13, 14, 15, 5, 16, 7, 17, 18, 19, 20, 21, 22, 23, 24, 25, 26, 27, 47, 48, 49, 50, 51, 52, 53, 54, 55, 56, 57, 58, 59, 60, 61, 62, 63, 64, 65, 66, 67, 68, 69, 70, 71, 72] (by decide +kernel) (by decide +kernel)
set_option maxRecDepth 20000 in
theorem gX3_record_X3_toCell : GoodIn wsX3_record (wsV RX3 163 RX3 yX3_toCell wsX3_toCell) := goodIn_app (goodIn_of _ (by decide +kernel)) ggX3_record_X3_toCell
set_option maxRecDepth 20000 in
theorem ggX3_record_X3_putTogether : GoodIn wsX3_record wsX3_putTogether := goodIn_r _ [31, 32, 33, 1, 34, 35, 36, 37, 5, 38, 8, 39, 40, 41, 42, 7, 43, 13, 14, 15, 16, 17, 44, 45, 46, 52, 53, 54, 55, 56, 57, 58, 59, 60, 61, 62, 63, 64, 65, 47, 48, 49, 50, 51, 66, 67, 68, 69, 70, 71, 72] (by decide +kernel) (by decide +kernel)
set_option maxRecDepth 20000 in
theorem gX3_record_X3_putTogether : GoodIn wsX3_record (wsV RX3 167 RX3 yX3_putTogether wsX3_putTogether) := goodIn_app (goodIn_of _ (by decide +kernel)) ggX3_record_X3_putTogether
theorem dX3_record_0 : decode cX3_record 0 = .ok (.aload_n 0, 1) := by decide +kernel
theorem dX3_record_1 : decode cX3_record 1 = .ok (.iload_n 1, 1) := by decide +kernel
theorem dX3_record_2 : decode cX3_record 2 = .ok (.invokevirtual 158, 3) := by decide +kernel
theorem dX3_record_5 : decode cX3_record 5 = .ok (.astore 6, 2) := by decide +kernel
theorem dX3_record_7 : decode cX3_record 7 = .ok (.aload 6, 2) := by decide +kernel
theorem dX3_record_9 : decode cX3_record 9 = .ok (.ifnonnull 5, 3) := by decide +kernel
theorem dX3_record_12 : decode cX3_record 12 = .ok (.iconst (-1), 1) := by decide +kernel
theorem dX3_record_13 : decode cX3_record 13 = .ok (.ireturn, 1) := by decide +kernel
theorem dX3_record_14 : decode cX3_record 14 = .ok (.aload 6, 2) := by decide +kernel
theorem dX3_record_16 : decode cX3_record 16 = .ok (.getfield 162, 3) := by decide +kernel
theorem dX3_record_19 : decode cX3_record 19 = .ok (.bipush 30, 2) := by decide +kernel
theorem dX3_record_21 : decode cX3_record 21 = .ok (.if_icmp .lt 6, 3) := by decide +kernel
theorem dX3_record_24 : decode cX3_record 24 = .ok (.bipush (-2), 2) := by decide +kernel
theorem dX3_record_26 : decode cX3_record 26 = .ok (.ireturn, 1) := by decide +kernel
theorem dX3_record_27 : decode cX3_record 27 = .ok (.aload_n 0, 1) := by decide +kernel
theorem dX3_record_28 : decode cX3_record 28 = .ok (.getfield 63, 3) := by decide +kernel
theorem dX3_record_31 : decode cX3_record 31 = .ok (.iconst 0, 1) := by decide +kernel
theorem dX3_record_32 : decode cX3_record 32 = .ok (.aload_n 0, 1) := by decide +kernel
theorem dX3_record_33 : decode cX3_record 33 = .ok (.aload 6, 2) := by decide +kernel
theorem dX3_record_35 : decode cX3_record 35 = .ok (.iconst 0, 1) := by decide +kernel
theorem dX3_record_36 : decode cX3_record 36 = .ok (.iload_n 2, 1) := by decide +kernel
theorem dX3_record_37 : decode cX3_record 37 = .ok (.invokevirtual 163, 3) := by decide +kernel
theorem dX3_record_40 : decode cX3_record 40 = .ok (.iastore, 1) := by decide +kernel
theorem dX3_record_41 : decode cX3_record 41 = .ok (.aload_n 0, 1) := by decide +kernel
theorem dX3_record_42 : decode cX3_record 42 = .ok (.getfield 63, 3) := by decide +kernel
theorem dX3_record_45 : decode cX3_record 45 = .ok (.iconst 1, 1) := by decide +kernel
theorem dX3_record_46 : decode cX3_record 46 = .ok (.aload_n 0, 1) := by decide +kernel
theorem dX3_record_47 : decode cX3_record 47 = .ok (.aload 6, 2) := by decide +kernel
theorem dX3_record_49 : decode cX3_record 49 = .ok (.iconst 1, 1) := by decide +kernel
theorem dX3_record_50 : decode cX3_record 50 = .ok (.iload_n 3, 1) := by decide +kernel
theorem dX3_record_51 : decode cX3_record 51 = .ok (.invokevirtual 163, 3) := by decide +kernel
theorem dX3_record_54 : decode cX3_record 54 = .ok (.iastore, 1) := by decide +kernel
theorem dX3_record_55 : decode cX3_record 55 = .ok (.aload_n 0, 1) := by decide +kernel
theorem dX3_record_56 : decode cX3_record 56 = .ok (.getfield 63, 3) := by decide +kernel
theorem dX3_record_59 : decode cX3_record 59 = .ok (.iconst 2, 1) := by decide +kernel
theorem dX3_record_60 : decode cX3_record 60 = .ok (.aload_n 0, 1) := by decide +kernel
theorem dX3_record_61 : decode cX3_record 61 = .ok (.aload 6, 2) := by decide +kernel
theorem dX3_record_63 : decode cX3_record 63 = .ok (.iconst 2, 1) := by decide +kernel
theorem dX3_record_64 : decode cX3_record 64 = .ok (.iload 4, 2) := by decide +kernel
theorem dX3_record_66 : decode cX3_record 66 = .ok (.invokevirtual 163, 3) := by decide +kernel
theorem dX3_record_69 : decode cX3_record 69 = .ok (.iastore, 1) := by decide +kernel
theorem dX3_record_70 : decode cX3_record 70 = .ok (.aload_n 0, 1) := by decide +kernel
theorem dX3_record_71 : decode cX3_record 71 = .ok (.getfield 63, 3) := by decide +kernel
theorem dX3_record_74 : decode cX3_record 74 = .ok (.iconst 3, 1) := by decide +kernel
theorem dX3_record_75 : decode cX3_record 75 = .ok (.aload_n 0, 1) := by decide +kernel
theorem dX3_record_76 : decode cX3_record 76 = .ok (.aload 6, 2) := by decide +kernel
theorem dX3_record_78 : decode cX3_record 78 = .ok (.iconst 3, 1) := by decide +kernel
theorem dX3_record_79 : decode cX3_record 79 = .ok (.iload 5, 2) := by decide +kernel
theorem dX3_record_81 : decode cX3_record 81 = .ok (.invokevirtual 163, 3) := by decide +kernel
theorem dX3_record_84 : decode cX3_record 84 = .ok (.iastore, 1) := by decide +kernel
theorem dX3_record_85 : decode cX3_record 85 = .ok (.aload_n 0, 1) := by decide +kernel
theorem dX3_record_86 : decode cX3_record 86 = .ok (.aload 6, 2) := by decide +kernel
theorem dX3_record_88 : decode cX3_record 88 = .ok (.invokevirtual 167, 3) := by decide +kernel
theorem dX3_record_91 : decode cX3_record 91 = .ok (.istore 7, 2) := by decide +kernel
theorem dX3_record_93 : decode cX3_record 93 = .ok (.iload 7, 2) := by decide +kernel
theorem dX3_record_95 : decode cX3_record 95 = .ok (.iconst 1, 1) := by decide +kernel
theorem dX3_record_96 : decode cX3_record 96 = .ok (.if_icmp .eq 6, 3) := by decide +kernel
theorem dX3_record_99 : decode cX3_record 99 = .ok (.iload 7, 2) := by decide +kernel
theorem dX3_record_101 : decode cX3_record 101 = .ok (.ireturn, 1) := by decide +kernel
theorem dX3_record_102 : decode cX3_record 102 = .ok (.iconst 0, 1) := by decide +kernel
theorem dX3_record_103 : decode cX3_record 103 = .ok (.istore 8, 2) := by decide +kernel
theorem dX3_record_105 : decode cX3_record 105 = .ok (.iload 8, 2) := by decide +kernel
theorem dX3_record_107 : decode cX3_record 107 = .ok (.aload 6, 2) := by decide +kernel
theorem dX3_record_109 : decode cX3_record 109 = .ok (.getfield 171, 3) := by decide +kernel
theorem dX3_record_112 : decode cX3_record 112 = .ok (.if_icmp .ge 30, 3) := by decide +kernel
theorem dX3_record_115 : decode cX3_record 115 = .ok (.aload 6, 2) := by decide +kernel
theorem dX3_record_117 : decode cX3_record 117 = .ok (.getfield 174, 3) := by decide +kernel
theorem dX3_record_120 : decode cX3_record 120 = .ok (.iload 8, 2) := by decide +kernel
theorem dX3_record_122 : decode cX3_record 122 = .ok (.aaload, 1) := by decide +kernel
theorem dX3_record_123 : decode cX3_record 123 = .ok (.aload 6, 2) := by decide +kernel
theorem dX3_record_125 : decode cX3_record 125 = .ok (.getfield 162, 3) := by decide +kernel
theorem dX3_record_128 : decode cX3_record 128 = .ok (.aload_n 0, 1) := by decide +kernel
theorem dX3_record_129 : decode cX3_record 129 = .ok (.getfield 63, 3) := by decide +kernel
theorem dX3_record_132 : decode cX3_record 132 = .ok (.iload 8, 2) := by decide +kernel
theorem dX3_record_134 : decode cX3_record 134 = .ok (.iaload, 1) := by decide +kernel
theorem dX3_record_135 : decode cX3_record 135 = .ok (.iastore, 1) := by decide +kernel
theorem dX3_record_136 : decode cX3_record 136 = .ok (.iinc 8 1, 3) := by decide +kernel
theorem dX3_record_139 : decode cX3_record 139 = .ok (.goto (-34), 3) := by decide +kernel
theorem dX3_record_142 : decode cX3_record 142 = .ok (.aload 6, 2) := by decide +kernel
theorem dX3_record_144 : decode cX3_record 144 = .ok (.dup, 1) := by decide +kernel
theorem dX3_record_145 : decode cX3_record 145 = .ok (.getfield 162, 3) := by decide +kernel
theorem dX3_record_148 : decode cX3_record 148 = .ok (.iconst 1, 1) := by decide +kernel
theorem dX3_record_149 : decode cX3_record 149 = .ok (.iadd, 1) := by decide +kernel
theorem dX3_record_150 : decode cX3_record 150 = .ok (.putfield 162, 3) := by decide +kernel
theorem dX3_record_153 : decode cX3_record 153 = .ok (.aload 6, 2) := by decide +kernel
theorem dX3_record_155 : decode cX3_record 155 = .ok (.getfield 162, 3) := by decide +kernel
theorem dX3_record_158 : decode cX3_record 158 = .ok (.iconst 1, 1) := by decide +kernel
theorem dX3_record_159 : decode cX3_record 159 = .ok (.isub, 1) := by decide +kernel
theorem dX3_record_160 : decode cX3_record 160 = .ok (.ireturn, 1) := by decide +kernel
set_option maxRecDepth 20000 in
theorem ggX3_lay_X3_tableNumbered : GoodIn wsX3_lay wsX3_tableNumbered := goodIn_r _ [5, 6, 7, 41, 42, 43, 44, 45, 46, 47, 48, 49, 50, 51, 52, 53, 54] (by decide +kernel) (by decide +kernel)
set_option maxRecDepth 20000 in
theorem gX3_lay_X3_tableNumbered : GoodIn wsX3_lay (wsV RX3 158 RX3 yX3_tableNumbered wsX3_tableNumbered) := goodIn_app (goodIn_of _ (by decide +kernel)) ggX3_lay_X3_tableNumbered
set_option maxRecDepth 20000 in
theorem ggX3_lay_X2_hasRecord : GoodIn wsX3_lay wsX2_hasRecord := goodIn_r _ [11, 12, 36, 37, 38, 39, 40] (by decide +kernel) (by decide +kernel)
set_option maxRecDepth 20000 in
theorem gX3_lay_X2_hasRecord_n178 : GoodIn wsX3_lay (wsX2_hasRecord) := ggX3_lay_X2_hasRecord
set_option maxRecDepth 20000 in
theorem ggX3_lay_X2_hasItem : GoodIn wsX3_lay wsX2_hasItem := goodIn_r _ [15, 16, 36, 37, 38, 39, 40] (by decide +kernel) (by decide +kernel)
set_option maxRecDepth 20000 in
theorem gX3_lay_X2_hasItem_n181 : GoodIn wsX3_lay (wsX2_hasItem) := ggX3_lay_X2_hasItem
set_option maxRecDepth 20000 in
theorem ggX3_lay_X3_toCell : GoodIn wsX3_lay wsX3_toCell := goodIn_r _ [20, 21, 22, 23, 4, 24, 6, 25, 26, 27, 28, 29, 30, 31, 32, 33, 34, 35, 36, 37, 38, 39, 40, 41, 42, 43, 44, 45, 46, 47, 48, 49, 50, 51, 52, 53, 54, 55, 56, 57, 58, 59, 60, 61] (by decide +kernel) (by decide +kernel)
set_option maxRecDepth 20000 in
theorem gX3_lay_X3_toCell : GoodIn wsX3_lay (wsV RX3 163 RX3 yX3_toCell wsX3_toCell) := goodIn_app (goodIn_of _ (by decide +kernel)) ggX3_lay_X3_toCell
theorem dX3_lay_0 : decode cX3_lay 0 = .ok (.aload_n 0, 1) := by decide +kernel
theorem dX3_lay_1 : decode cX3_lay 1 = .ok (.iload_n 1, 1) := by decide +kernel
theorem dX3_lay_2 : decode cX3_lay 2 = .ok (.invokevirtual 158, 3) := by decide +kernel
theorem dX3_lay_5 : decode cX3_lay 5 = .ok (.astore 5, 2) := by decide +kernel
theorem dX3_lay_7 : decode cX3_lay 7 = .ok (.aload 5, 2) := by decide +kernel
theorem dX3_lay_9 : decode cX3_lay 9 = .ok (.ifnull 21, 3) := by decide +kernel
theorem dX3_lay_12 : decode cX3_lay 12 = .ok (.aload 5, 2) := by decide +kernel
theorem dX3_lay_14 : decode cX3_lay 14 = .ok (.iload_n 2, 1) := by decide +kernel
theorem dX3_lay_15 : decode cX3_lay 15 = .ok (.invokevirtual 178, 3) := by decide +kernel
theorem dX3_lay_18 : decode cX3_lay 18 = .ok (.ifCond .eq 12, 3) := by decide +kernel
theorem dX3_lay_21 : decode cX3_lay 21 = .ok (.aload 5, 2) := by decide +kernel
theorem dX3_lay_23 : decode cX3_lay 23 = .ok (.iload_n 3, 1) := by decide +kernel
theorem dX3_lay_24 : decode cX3_lay 24 = .ok (.invokevirtual 181, 3) := by decide +kernel
theorem dX3_lay_27 : decode cX3_lay 27 = .ok (.ifCond .ne 5, 3) := by decide +kernel
theorem dX3_lay_30 : decode cX3_lay 30 = .ok (.iconst (-1), 1) := by decide +kernel
theorem dX3_lay_31 : decode cX3_lay 31 = .ok (.ireturn, 1) := by decide +kernel
theorem dX3_lay_32 : decode cX3_lay 32 = .ok (.aload 5, 2) := by decide +kernel
theorem dX3_lay_34 : decode cX3_lay 34 = .ok (.getfield 174, 3) := by decide +kernel
theorem dX3_lay_37 : decode cX3_lay 37 = .ok (.iload_n 3, 1) := by decide +kernel
theorem dX3_lay_38 : decode cX3_lay 38 = .ok (.aaload, 1) := by decide +kernel
theorem dX3_lay_39 : decode cX3_lay 39 = .ok (.iload_n 2, 1) := by decide +kernel
theorem dX3_lay_40 : decode cX3_lay 40 = .ok (.aload_n 0, 1) := by decide +kernel
theorem dX3_lay_41 : decode cX3_lay 41 = .ok (.aload 5, 2) := by decide +kernel
theorem dX3_lay_43 : decode cX3_lay 43 = .ok (.iload_n 3, 1) := by decide +kernel
theorem dX3_lay_44 : decode cX3_lay 44 = .ok (.iload 4, 2) := by decide +kernel
theorem dX3_lay_46 : decode cX3_lay 46 = .ok (.invokevirtual 163, 3) := by decide +kernel
theorem dX3_lay_49 : decode cX3_lay 49 = .ok (.iastore, 1) := by decide +kernel
theorem dX3_lay_50 : decode cX3_lay 50 = .ok (.iconst 1, 1) := by decide +kernel
theorem dX3_lay_51 : decode cX3_lay 51 = .ok (.ireturn, 1) := by decide +kernel
set_option maxRecDepth 20000 in
theorem ggX3_cell_X3_tableNumbered : GoodIn wsX3_cell wsX3_tableNumbered := goodIn_r _ [6, 7, 8, 42, 43, 44, 45, 46, 47, 48, 49, 50, 51, 52, 53, 54, 55] (by decide +kernel) (by decide +kernel)
set_option maxRecDepth 20000 in
theorem gX3_cell_X3_tableNumbered : GoodIn wsX3_cell (wsV RX3 158 RX3 yX3_tableNumbered wsX3_tableNumbered) := goodIn_app (goodIn_of _ (by decide +kernel)) ggX3_cell_X3_tableNumbered
set_option maxRecDepth 20000 in
theorem ggX3_cell_X2_hasRecord : GoodIn wsX3_cell wsX2_hasRecord := goodIn_r _ [12, 13, 37, 38, 39, 40, 41] (by decide +kernel) (by decide +kernel)
set_option maxRecDepth 20000 in
theorem gX3_cell_X2_hasRecord_n178 : GoodIn wsX3_cell (wsX2_hasRecord) := ggX3_cell_X2_hasRecord
set_option maxRecDepth 20000 in
theorem ggX3_cell_X2_hasItem : GoodIn wsX3_cell wsX2_hasItem := goodIn_r _ [16, 17, 37, 38, 39, 40, 41] (by decide +kernel) (by decide +kernel)
set_option maxRecDepth 20000 in
theorem gX3_cell_X2_hasItem_n181 : GoodIn wsX3_cell (wsX2_hasItem) := ggX3_cell_X2_hasItem
set_option maxRecDepth 20000 in
theorem ggX3_cell_X3_fromCell : GoodIn wsX3_cell wsX3_fromCell := goodIn_r _ [21, 22, 23, 24, 5, 25, 7, 26, 27, 28, 29, 30, 31, 32, 33, 34, 35, 36, 37, 38, 39, 40, 41, 42, 43, 44, 45, 46, 47, 48, 49, 50, 51, 52, 53, 54, 55, 56, 57, 58, 59, 60, 61, 62] (by decide +kernel) (by decide +kernel)
set_option maxRecDepth 20000 in
theorem gX3_cell_X3_fromCell : GoodIn wsX3_cell (wsV RX3 185 RX3 yX3_fromCell wsX3_fromCell) := goodIn_app (goodIn_of _ (by decide +kernel)) ggX3_cell_X3_fromCell
theorem dX3_cell_0 : decode cX3_cell 0 = .ok (.aload_n 0, 1) := by decide +kernel
theorem dX3_cell_1 : decode cX3_cell 1 = .ok (.iload_n 1, 1) := by decide +kernel
theorem dX3_cell_2 : decode cX3_cell 2 = .ok (.invokevirtual 158, 3) := by decide +kernel
theorem dX3_cell_5 : decode cX3_cell 5 = .ok (.astore 4, 2) := by decide +kernel
theorem dX3_cell_7 : decode cX3_cell 7 = .ok (.aload 4, 2) := by decide +kernel
theorem dX3_cell_9 : decode cX3_cell 9 = .ok (.ifnull 21, 3) := by decide +kernel
theorem dX3_cell_12 : decode cX3_cell 12 = .ok (.aload 4, 2) := by decide +kernel
theorem dX3_cell_14 : decode cX3_cell 14 = .ok (.iload_n 2, 1) := by decide +kernel
theorem dX3_cell_15 : decode cX3_cell 15 = .ok (.invokevirtual 178, 3) := by decide +kernel
theorem dX3_cell_18 : decode cX3_cell 18 = .ok (.ifCond .eq 12, 3) := by decide +kernel
theorem dX3_cell_21 : decode cX3_cell 21 = .ok (.aload 4, 2) := by decide +kernel
theorem dX3_cell_23 : decode cX3_cell 23 = .ok (.iload_n 3, 1) := by decide +kernel
theorem dX3_cell_24 : decode cX3_cell 24 = .ok (.invokevirtual 181, 3) := by decide +kernel
theorem dX3_cell_27 : decode cX3_cell 27 = .ok (.ifCond .ne 6, 3) := by decide +kernel
theorem dX3_cell_30 : decode cX3_cell 30 = .ok (.ldc 184, 2) := by decide +kernel
theorem dX3_cell_32 : decode cX3_cell 32 = .ok (.ireturn, 1) := by decide +kernel
theorem dX3_cell_33 : decode cX3_cell 33 = .ok (.aload_n 0, 1) := by decide +kernel
theorem dX3_cell_34 : decode cX3_cell 34 = .ok (.aload 4, 2) := by decide +kernel
theorem dX3_cell_36 : decode cX3_cell 36 = .ok (.iload_n 3, 1) := by decide +kernel
theorem dX3_cell_37 : decode cX3_cell 37 = .ok (.aload 4, 2) := by decide +kernel
theorem dX3_cell_39 : decode cX3_cell 39 = .ok (.getfield 174, 3) := by decide +kernel
theorem dX3_cell_42 : decode cX3_cell 42 = .ok (.iload_n 3, 1) := by decide +kernel
theorem dX3_cell_43 : decode cX3_cell 43 = .ok (.aaload, 1) := by decide +kernel
theorem dX3_cell_44 : decode cX3_cell 44 = .ok (.iload_n 2, 1) := by decide +kernel
theorem dX3_cell_45 : decode cX3_cell 45 = .ok (.iaload, 1) := by decide +kernel
theorem dX3_cell_46 : decode cX3_cell 46 = .ok (.invokevirtual 185, 3) := by decide +kernel
theorem dX3_cell_49 : decode cX3_cell 49 = .ok (.ireturn, 1) := by decide +kernel
set_option maxRecDepth 20000 in
theorem ggX3_back_X3_tableNumbered : GoodIn wsX3_back wsX3_tableNumbered := goodIn_r _ [5, 6, 7, 42, 43, 44, 45, 46, 47, 48, 49, 50, 51, 52, 53, 54, 55] (by decide +kernel) (by decide +kernel)
set_option maxRecDepth 20000 in
theorem gX3_back_X3_tableNumbered : GoodIn wsX3_back (wsV RX3 158 RX3 yX3_tableNumbered wsX3_tableNumbered) := goodIn_app (goodIn_of _ (by decide +kernel)) ggX3_back_X3_tableNumbered
set_option maxRecDepth 20000 in
theorem ggX3_back_X2_hasRecord : GoodIn wsX3_back wsX2_hasRecord := goodIn_r _ [11, 12, 56, 57, 58, 59, 60] (by decide +kernel) (by decide +kernel)
set_option maxRecDepth 20000 in
theorem gX3_back_X2_hasRecord_n178 : GoodIn wsX3_back (wsX2_hasRecord) := ggX3_back_X2_hasRecord
set_option maxRecDepth 20000 in
theorem ggX3_back_X3_draftOf : GoodIn wsX3_back wsX3_draftOf := goodIn_r _ [16, 17, 8, 9, 10, 11, 12, 56, 57, 58, 59, 60, 42, 43, 44, 45, 46, 47, 48, 49, 50, 51, 52, 53, 54, 55] (by decide +kernel) (by decide +kernel)
set_option maxRecDepth 20000 in
theorem gX3_back_X3_draftOf : GoodIn wsX3_back (wsV RX3 188 RX3 yX3_draftOf wsX3_draftOf) := goodIn_app (goodIn_of _ (by decide +kernel)) ggX3_back_X3_draftOf
set_option maxRecDepth 20000 in
theorem ggX3_back_X3_putTogether : GoodIn wsX3_back wsX3_putTogether := goodIn_r _ [21, 22, 23, 17, 24, 25, 26, 27, 4, 28, 7, 29, 30, 31, 32, 6, 33, 34, 35, 36, 37, 38, 39, 40, 41, 42, 43, 44, 45, 46, 47, 48, 49, 50, 51, 52, 53, 54, 55, 56, 57, 58, 59, 60, 61, 62, 63, 64, 65, 66, 67] (by decide +kernel) (by decide +kernel)
set_option maxRecDepth 20000 in
theorem gX3_back_X3_putTogether : GoodIn wsX3_back (wsV RX3 167 RX3 yX3_putTogether wsX3_putTogether) := goodIn_app (goodIn_of _ (by decide +kernel)) ggX3_back_X3_putTogether
theorem dX3_back_0 : decode cX3_back 0 = .ok (.aload_n 0, 1) := by decide +kernel
theorem dX3_back_1 : decode cX3_back 1 = .ok (.iload_n 1, 1) := by decide +kernel
theorem dX3_back_2 : decode cX3_back 2 = .ok (.invokevirtual 158, 3) := by decide +kernel
theorem dX3_back_5 : decode cX3_back 5 = .ok (.astore_n 3, 1) := by decide +kernel
theorem dX3_back_6 : decode cX3_back 6 = .ok (.aload_n 3, 1) := by decide +kernel
theorem dX3_back_7 : decode cX3_back 7 = .ok (.ifnull 11, 3) := by decide +kernel
theorem dX3_back_10 : decode cX3_back 10 = .ok (.aload_n 3, 1) := by decide +kernel
theorem dX3_back_11 : decode cX3_back 11 = .ok (.iload_n 2, 1) := by decide +kernel
theorem dX3_back_12 : decode cX3_back 12 = .ok (.invokevirtual 178, 3) := by decide +kernel
theorem dX3_back_15 : decode cX3_back 15 = .ok (.ifCond .ne 5, 3) := by decide +kernel
theorem dX3_back_18 : decode cX3_back 18 = .ok (.iconst (-1), 1) := by decide +kernel
theorem dX3_back_19 : decode cX3_back 19 = .ok (.ireturn, 1) := by decide +kernel
theorem dX3_back_20 : decode cX3_back 20 = .ok (.aload_n 0, 1) := by decide +kernel
theorem dX3_back_21 : decode cX3_back 21 = .ok (.aload_n 3, 1) := by decide +kernel
theorem dX3_back_22 : decode cX3_back 22 = .ok (.iload_n 2, 1) := by decide +kernel
theorem dX3_back_23 : decode cX3_back 23 = .ok (.invokevirtual 188, 3) := by decide +kernel
theorem dX3_back_26 : decode cX3_back 26 = .ok (.aload_n 0, 1) := by decide +kernel
theorem dX3_back_27 : decode cX3_back 27 = .ok (.aload_n 3, 1) := by decide +kernel
theorem dX3_back_28 : decode cX3_back 28 = .ok (.invokevirtual 167, 3) := by decide +kernel
theorem dX3_back_31 : decode cX3_back 31 = .ok (.ireturn, 1) := by decide +kernel
set_option maxRecDepth 20000 in
theorem ggX3_part_X2_hasItem : GoodIn wsX3_part wsX2_hasItem := goodIn_r _ [6, 7, 43, 44, 45, 46, 47] (by decide +kernel) (by decide +kernel)
set_option maxRecDepth 20000 in
theorem gX3_part_X2_hasItem_n181 : GoodIn wsX3_part (wsX2_hasItem) := ggX3_part_X2_hasItem
set_option maxRecDepth 20000 in
theorem ggX3_part_X3_fromCell : GoodIn wsX3_part wsX3_fromCell := goodIn_r _ [12, 13, 14, 15, 11, 16, 17, 18, 19, 20, 21, 22, 23, 24, 25, 26, 27, 28, 43, 44, 45, 46, 47, 29, 30, 31, 32, 33, 34, 35, 36, 37, 38, 39, 40, 41, 42, 48, 49, 50, 51, 52, 53, 54] (by decide +kernel) (by decide +kernel)
set_option maxRecDepth 20000 in
theorem gX3_part_X3_fromCell : GoodIn wsX3_part (wsV RX3 185 RX3 yX3_fromCell wsX3_fromCell) := goodIn_app (goodIn_of _ (by decide +kernel)) ggX3_part_X3_fromCell
theorem dX3_part_0 : decode cX3_part 0 = .ok (.aload_n 0, 1) := by decide +kernel
theorem dX3_part_1 : decode cX3_part 1 = .ok (.getfield 70, 3) := by decide +kernel
theorem dX3_part_4 : decode cX3_part 4 = .ok (.ifnull 14, 3) := by decide +kernel
theorem dX3_part_7 : decode cX3_part 7 = .ok (.aload_n 0, 1) := by decide +kernel
theorem dX3_part_8 : decode cX3_part 8 = .ok (.getfield 70, 3) := by decide +kernel
theorem dX3_part_11 : decode cX3_part 11 = .ok (.iload_n 1, 1) := by decide +kernel
theorem dX3_part_12 : decode cX3_part 12 = .ok (.invokevirtual 181, 3) := by decide +kernel
theorem dX3_part_15 : decode cX3_part 15 = .ok (.ifCond .ne 6, 3) := by decide +kernel
theorem dX3_part_18 : decode cX3_part 18 = .ok (.bipush (-4), 2) := by decide +kernel
theorem dX3_part_20 : decode cX3_part 20 = .ok (.ireturn, 1) := by decide +kernel
theorem dX3_part_21 : decode cX3_part 21 = .ok (.aload_n 0, 1) := by decide +kernel
theorem dX3_part_22 : decode cX3_part 22 = .ok (.aload_n 0, 1) := by decide +kernel
theorem dX3_part_23 : decode cX3_part 23 = .ok (.getfield 70, 3) := by decide +kernel
theorem dX3_part_26 : decode cX3_part 26 = .ok (.iload_n 1, 1) := by decide +kernel
theorem dX3_part_27 : decode cX3_part 27 = .ok (.aload_n 0, 1) := by decide +kernel
theorem dX3_part_28 : decode cX3_part 28 = .ok (.getfield 67, 3) := by decide +kernel
theorem dX3_part_31 : decode cX3_part 31 = .ok (.iload_n 1, 1) := by decide +kernel
theorem dX3_part_32 : decode cX3_part 32 = .ok (.iaload, 1) := by decide +kernel
theorem dX3_part_33 : decode cX3_part 33 = .ok (.invokevirtual 185, 3) := by decide +kernel
theorem dX3_part_36 : decode cX3_part 36 = .ok (.ireturn, 1) := by decide +kernel
theorem dX3_found_0 : decode cX3_found 0 = .ok (.iload_n 1, 1) := by decide +kernel
theorem dX3_found_1 : decode cX3_found 1 = .ok (.ifCond .lt 20, 3) := by decide +kernel
theorem dX3_found_4 : decode cX3_found 4 = .ok (.iload_n 1, 1) := by decide +kernel
theorem dX3_found_5 : decode cX3_found 5 = .ok (.aload_n 0, 1) := by decide +kernel
theorem dX3_found_6 : decode cX3_found 6 = .ok (.getfield 76, 3) := by decide +kernel
theorem dX3_found_9 : decode cX3_found 9 = .ok (.if_icmp .ge 12, 3) := by decide +kernel
theorem dX3_found_12 : decode cX3_found 12 = .ok (.aload_n 0, 1) := by decide +kernel
theorem dX3_found_13 : decode cX3_found 13 = .ok (.getfield 73, 3) := by decide +kernel
theorem dX3_found_16 : decode cX3_found 16 = .ok (.iload_n 1, 1) := by decide +kernel
theorem dX3_found_17 : decode cX3_found 17 = .ok (.iaload, 1) := by decide +kernel
theorem dX3_found_18 : decode cX3_found 18 = .ok (.goto 5, 3) := by decide +kernel
theorem dX3_found_21 : decode cX3_found 21 = .ok (.bipush (-4), 2) := by decide +kernel
theorem dX3_found_23 : decode cX3_found 23 = .ok (.ireturn, 1) := by decide +kernel
theorem dX3_count_0 : decode cX3_count 0 = .ok (.iload_n 1, 1) := by decide +kernel
theorem dX3_count_1 : decode cX3_count 1 = .ok (.tableswitch 57 0 3 #[31, 39, 47, 52], 31) := by decide +kernel
theorem dX3_count_32 : decode cX3_count 32 = .ok (.aload_n 0, 1) := by decide +kernel
theorem dX3_count_33 : decode cX3_count 33 = .ok (.getfield 45, 3) := by decide +kernel
theorem dX3_count_36 : decode cX3_count 36 = .ok (.getfield 162, 3) := by decide +kernel
theorem dX3_count_39 : decode cX3_count 39 = .ok (.ireturn, 1) := by decide +kernel
theorem dX3_count_40 : decode cX3_count 40 = .ok (.aload_n 0, 1) := by decide +kernel
theorem dX3_count_41 : decode cX3_count 41 = .ok (.getfield 49, 3) := by decide +kernel
theorem dX3_count_44 : decode cX3_count 44 = .ok (.getfield 162, 3) := by decide +kernel
theorem dX3_count_47 : decode cX3_count 47 = .ok (.ireturn, 1) := by decide +kernel
theorem dX3_count_48 : decode cX3_count 48 = .ok (.aload_n 0, 1) := by decide +kernel
theorem dX3_count_49 : decode cX3_count 49 = .ok (.getfield 56, 3) := by decide +kernel
theorem dX3_count_52 : decode cX3_count 52 = .ok (.ireturn, 1) := by decide +kernel
theorem dX3_count_53 : decode cX3_count 53 = .ok (.aload_n 0, 1) := by decide +kernel
theorem dX3_count_54 : decode cX3_count 54 = .ok (.getfield 60, 3) := by decide +kernel
theorem dX3_count_57 : decode cX3_count 57 = .ok (.ireturn, 1) := by decide +kernel
theorem dX3_count_58 : decode cX3_count 58 = .ok (.iconst (-1), 1) := by decide +kernel
theorem dX3_count_59 : decode cX3_count 59 = .ok (.ireturn, 1) := by decide +kernel
