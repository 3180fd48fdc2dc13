theorem dX3_kindNumbered_0 : decode cX3_kindNumbered 0 = .ok (.iload_n 1, 1) := by decide +kernel
theorem dX3_kindNumbered_1 : decode cX3_kindNumbered 1 = .ok (.tableswitch 42 0 2 #[27, 32, 37], 27) := by decide +kernel
theorem dX3_kindNumbered_28 : decode cX3_kindNumbered 28 = .ok (.aload_n 0, 1) := by decide +kernel
theorem dX3_kindNumbered_29 : decode cX3_kindNumbered 29 = .ok (.getfield 18, 3) := by decide +kernel
theorem dX3_kindNumbered_32 : decode cX3_kindNumbered 32 = .ok (.areturn, 1) := by decide +kernel
theorem dX3_kindNumbered_33 : decode cX3_kindNumbered 33 = .ok (.aload_n 0, 1) := by decide +kernel
theorem dX3_kindNumbered_34 : decode cX3_kindNumbered 34 = .ok (.getfield 25, 3) := by decide +kernel
theorem dX3_kindNumbered_37 : decode cX3_kindNumbered 37 = .ok (.areturn, 1) := by decide +kernel
theorem dX3_kindNumbered_38 : decode cX3_kindNumbered 38 = .ok (.aload_n 0, 1) := by decide +kernel
theorem dX3_kindNumbered_39 : decode cX3_kindNumbered 39 = .ok (.getfield 31, 3) := by decide +kernel
theorem dX3_kindNumbered_42 : decode cX3_kindNumbered 42 = .ok (.areturn, 1) := by decide +kernel
theorem dX3_kindNumbered_43 : decode cX3_kindNumbered 43 = .ok (.aconst_null, 1) := by decide +kernel
theorem dX3_kindNumbered_44 : decode cX3_kindNumbered 44 = .ok (.areturn, 1) := by decide +kernel
theorem dX3_tableNumbered_0 : decode cX3_tableNumbered 0 = .ok (.iload_n 1, 1) := by decide +kernel
theorem dX3_tableNumbered_1 : decode cX3_tableNumbered 1 = .ok (.lookupswitch 37 #[(0, 27), (1, 32)], 27) := by decide +kernel
theorem dX3_tableNumbered_28 : decode cX3_tableNumbered 28 = .ok (.aload_n 0, 1) := by decide +kernel
theorem dX3_tableNumbered_29 : decode cX3_tableNumbered 29 = .ok (.getfield 45, 3) := by decide +kernel
theorem dX3_tableNumbered_32 : decode cX3_tableNumbered 32 = .ok (.areturn, 1) := by decide +kernel
theorem dX3_tableNumbered_33 : decode cX3_tableNumbered 33 = .ok (.aload_n 0, 1) := by decide +kernel
theorem dX3_tableNumbered_34 : decode cX3_tableNumbered 34 = .ok (.getfield 49, 3) := by decide +kernel
theorem dX3_tableNumbered_37 : decode cX3_tableNumbered 37 = .ok (.areturn, 1) := by decide +kernel
theorem dX3_tableNumbered_38 : decode cX3_tableNumbered 38 = .ok (.aconst_null, 1) := by decide +kernel
theorem dX3_tableNumbered_39 : decode cX3_tableNumbered 39 = .ok (.areturn, 1) := by decide +kernel
theorem dX3_setNumbered_0 : decode cX3_setNumbered 0 = .ok (.iload_n 1, 1) := by decide +kernel
theorem dX3_setNumbered_1 : decode cX3_setNumbered 1 = .ok (.ifCond .lt 18, 3) := by decide +kernel
theorem dX3_setNumbered_4 : decode cX3_setNumbered 4 = .ok (.iload_n 1, 1) := by decide +kernel
theorem dX3_setNumbered_5 : decode cX3_setNumbered 5 = .ok (.bipush 10, 2) := by decide +kernel
theorem dX3_setNumbered_7 : decode cX3_setNumbered 7 = .ok (.if_icmp .ge 12, 3) := by decide +kernel
theorem dX3_setNumbered_10 : decode cX3_setNumbered 10 = .ok (.aload_n 0, 1) := by decide +kernel
theorem dX3_setNumbered_11 : decode cX3_setNumbered 11 = .ok (.getfield 36, 3) := by decide +kernel
theorem dX3_setNumbered_14 : decode cX3_setNumbered 14 = .ok (.iload_n 1, 1) := by decide +kernel
theorem dX3_setNumbered_15 : decode cX3_setNumbered 15 = .ok (.aaload, 1) := by decide +kernel
theorem dX3_setNumbered_16 : decode cX3_setNumbered 16 = .ok (.goto 4, 3) := by decide +kernel
theorem dX3_setNumbered_19 : decode cX3_setNumbered 19 = .ok (.aconst_null, 1) := by decide +kernel
theorem dX3_setNumbered_20 : decode cX3_setNumbered 20 = .ok (.areturn, 1) := by decide +kernel
theorem dX3_oneIf_0 : decode cX3_oneIf 0 = .ok (.iload_n 0, 1) := by decide +kernel
theorem dX3_oneIf_1 : decode cX3_oneIf 1 = .ok (.ifCond .eq 7, 3) := by decide +kernel
theorem dX3_oneIf_4 : decode cX3_oneIf 4 = .ok (.iconst 1, 1) := by decide +kernel
theorem dX3_oneIf_5 : decode cX3_oneIf 5 = .ok (.goto 4, 3) := by decide +kernel
theorem dX3_oneIf_8 : decode cX3_oneIf 8 = .ok (.iconst 0, 1) := by decide +kernel
theorem dX3_oneIf_9 : decode cX3_oneIf 9 = .ok (.ireturn, 1) := by decide +kernel
theorem dX3_isFromTo_0 : decode cX3_isFromTo 0 = .ok (.iload_n 0, 1) := by decide +kernel
theorem dX3_isFromTo_1 : decode cX3_isFromTo 1 = .ok (.iload_n 1, 1) := by decide +kernel
theorem dX3_isFromTo_2 : decode cX3_isFromTo 2 = .ok (.if_icmp .lt 12, 3) := by decide +kernel
theorem dX3_isFromTo_5 : decode cX3_isFromTo 5 = .ok (.iload_n 0, 1) := by decide +kernel
theorem dX3_isFromTo_6 : decode cX3_isFromTo 6 = .ok (.iload_n 2, 1) := by decide +kernel
theorem dX3_isFromTo_7 : decode cX3_isFromTo 7 = .ok (.if_icmp .gt 7, 3) := by decide +kernel
theorem dX3_isFromTo_10 : decode cX3_isFromTo 10 = .ok (.iconst 1, 1) := by decide +kernel
theorem dX3_isFromTo_11 : decode cX3_isFromTo 11 = .ok (.goto 4, 3) := by decide +kernel
theorem dX3_isFromTo_14 : decode cX3_isFromTo 14 = .ok (.iconst 0, 1) := by decide +kernel
theorem dX3_isFromTo_15 : decode cX3_isFromTo 15 = .ok (.ireturn, 1) := by decide +kernel
theorem dX3_arcRuleAnswer_0 : decode cX3_arcRuleAnswer 0 = .ok (.iload_n 0, 1) := by decide +kernel
theorem dX3_arcRuleAnswer_1 : decode cX3_arcRuleAnswer 1 = .ok (.tableswitch 80 3 6 #[31, 31, 44, 67], 31) := by decide +kernel
theorem dX3_arcRuleAnswer_32 : decode cX3_arcRuleAnswer 32 = .ok (.lload_n 1, 1) := by decide +kernel
theorem dX3_arcRuleAnswer_33 : decode cX3_arcRuleAnswer 33 = .ok (.lconst 0, 1) := by decide +kernel
theorem dX3_arcRuleAnswer_34 : decode cX3_arcRuleAnswer 34 = .ok (.lcmp, 1) := by decide +kernel
theorem dX3_arcRuleAnswer_35 : decode cX3_arcRuleAnswer 35 = .ok (.ifCond .ne 8, 3) := by decide +kernel
theorem dX3_arcRuleAnswer_38 : decode cX3_arcRuleAnswer 38 = .ok (.bipush (-5), 2) := by decide +kernel
theorem dX3_arcRuleAnswer_40 : decode cX3_arcRuleAnswer 40 = .ok (.goto 4, 3) := by decide +kernel
theorem dX3_arcRuleAnswer_43 : decode cX3_arcRuleAnswer 43 = .ok (.iconst 1, 1) := by decide +kernel
theorem dX3_arcRuleAnswer_44 : decode cX3_arcRuleAnswer 44 = .ok (.ireturn, 1) := by decide +kernel
theorem dX3_arcRuleAnswer_45 : decode cX3_arcRuleAnswer 45 = .ok (.lload_n 1, 1) := by decide +kernel
theorem dX3_arcRuleAnswer_46 : decode cX3_arcRuleAnswer 46 = .ok (.lconst 0, 1) := by decide +kernel
theorem dX3_arcRuleAnswer_47 : decode cX3_arcRuleAnswer 47 = .ok (.lcmp, 1) := by decide +kernel
theorem dX3_arcRuleAnswer_48 : decode cX3_arcRuleAnswer 48 = .ok (.ifCond .lt 13, 3) := by decide +kernel
theorem dX3_arcRuleAnswer_51 : decode cX3_arcRuleAnswer 51 = .ok (.lload_n 1, 1) := by decide +kernel
theorem dX3_arcRuleAnswer_52 : decode cX3_arcRuleAnswer 52 = .ok (.getstatic 216, 3) := by decide +kernel
theorem dX3_arcRuleAnswer_55 : decode cX3_arcRuleAnswer 55 = .ok (.arraylength, 1) := by decide +kernel
theorem dX3_arcRuleAnswer_56 : decode cX3_arcRuleAnswer 56 = .ok (.i2l, 1) := by decide +kernel
theorem dX3_arcRuleAnswer_57 : decode cX3_arcRuleAnswer 57 = .ok (.lcmp, 1) := by decide +kernel
theorem dX3_arcRuleAnswer_58 : decode cX3_arcRuleAnswer 58 = .ok (.ifCond .lt 8, 3) := by decide +kernel
theorem dX3_arcRuleAnswer_61 : decode cX3_arcRuleAnswer 61 = .ok (.bipush (-6), 2) := by decide +kernel
theorem dX3_arcRuleAnswer_63 : decode cX3_arcRuleAnswer 63 = .ok (.goto 4, 3) := by decide +kernel
theorem dX3_arcRuleAnswer_66 : decode cX3_arcRuleAnswer 66 = .ok (.iconst 1, 1) := by decide +kernel
theorem dX3_arcRuleAnswer_67 : decode cX3_arcRuleAnswer 67 = .ok (.ireturn, 1) := by decide +kernel
theorem dX3_arcRuleAnswer_68 : decode cX3_arcRuleAnswer 68 = .ok (.lload_n 1, 1) := by decide +kernel
theorem dX3_arcRuleAnswer_69 : decode cX3_arcRuleAnswer 69 = .ok (.lconst 0, 1) := by decide +kernel
theorem dX3_arcRuleAnswer_70 : decode cX3_arcRuleAnswer 70 = .ok (.lcmp, 1) := by decide +kernel
theorem dX3_arcRuleAnswer_71 : decode cX3_arcRuleAnswer 71 = .ok (.ifCond .ge 8, 3) := by decide +kernel
theorem dX3_arcRuleAnswer_74 : decode cX3_arcRuleAnswer 74 = .ok (.bipush (-7), 2) := by decide +kernel
theorem dX3_arcRuleAnswer_76 : decode cX3_arcRuleAnswer 76 = .ok (.goto 4, 3) := by decide +kernel
theorem dX3_arcRuleAnswer_79 : decode cX3_arcRuleAnswer 79 = .ok (.iconst 1, 1) := by decide +kernel
theorem dX3_arcRuleAnswer_80 : decode cX3_arcRuleAnswer 80 = .ok (.ireturn, 1) := by decide +kernel
theorem dX3_arcRuleAnswer_81 : decode cX3_arcRuleAnswer 81 = .ok (.iconst 1, 1) := by decide +kernel
theorem dX3_arcRuleAnswer_82 : decode cX3_arcRuleAnswer 82 = .ok (.ireturn, 1) := by decide +kernel
theorem dX3_nodeValue_0 : decode cX3_nodeValue 0 = .ok (.iload_n 0, 1) := by decide +kernel
theorem dX3_nodeValue_1 : decode cX3_nodeValue 1 = .ok (.tableswitch 56 0 4 #[35, 37, 43, 49, 52], 35) := by decide +kernel
theorem dX3_nodeValue_36 : decode cX3_nodeValue 36 = .ok (.lload_n 1, 1) := by decide +kernel
theorem dX3_nodeValue_37 : decode cX3_nodeValue 37 = .ok (.lreturn, 1) := by decide +kernel
theorem dX3_nodeValue_38 : decode cX3_nodeValue 38 = .ok (.ldc2_w 226, 3) := by decide +kernel
theorem dX3_nodeValue_41 : decode cX3_nodeValue 41 = .ok (.lload_n 1, 1) := by decide +kernel
theorem dX3_nodeValue_42 : decode cX3_nodeValue 42 = .ok (.lmul, 1) := by decide +kernel
theorem dX3_nodeValue_43 : decode cX3_nodeValue 43 = .ok (.lreturn, 1) := by decide +kernel
theorem dX3_nodeValue_44 : decode cX3_nodeValue 44 = .ok (.lload_n 1, 1) := by decide +kernel
theorem dX3_nodeValue_45 : decode cX3_nodeValue 45 = .ok (.ldc2_w 228, 3) := by decide +kernel
theorem dX3_nodeValue_48 : decode cX3_nodeValue 48 = .ok (.ladd, 1) := by decide +kernel
theorem dX3_nodeValue_49 : decode cX3_nodeValue 49 = .ok (.lreturn, 1) := by decide +kernel
theorem dX3_nodeValue_50 : decode cX3_nodeValue 50 = .ok (.lload_n 1, 1) := by decide +kernel
theorem dX3_nodeValue_51 : decode cX3_nodeValue 51 = .ok (.lneg, 1) := by decide +kernel
theorem dX3_nodeValue_52 : decode cX3_nodeValue 52 = .ok (.lreturn, 1) := by decide +kernel
theorem dX3_nodeValue_53 : decode cX3_nodeValue 53 = .ok (.lload_n 1, 1) := by decide +kernel
theorem dX3_nodeValue_54 : decode cX3_nodeValue 54 = .ok (.lload_n 1, 1) := by decide +kernel
theorem dX3_nodeValue_55 : decode cX3_nodeValue 55 = .ok (.lmul, 1) := by decide +kernel
theorem dX3_nodeValue_56 : decode cX3_nodeValue 56 = .ok (.lreturn, 1) := by decide +kernel
theorem dX3_nodeValue_57 : decode cX3_nodeValue 57 = .ok (.lconst 0, 1) := by decide +kernel
theorem dX3_nodeValue_58 : decode cX3_nodeValue 58 = .ok (.lreturn, 1) := by decide +kernel
theorem dX3_arcValue_0 : decode cX3_arcValue 0 = .ok (.iload_n 0, 1) := by decide +kernel
theorem dX3_arcValue_1 : decode cX3_arcValue 1 = .ok (.tableswitch 118 0 6 #[43, 47, 51, 57, 73, 89, 116], 43) := by decide +kernel
theorem dX3_arcValue_44 : decode cX3_arcValue 44 = .ok (.lload_n 1, 1) := by decide +kernel
theorem dX3_arcValue_45 : decode cX3_arcValue 45 = .ok (.lconst 1, 1) := by decide +kernel
theorem dX3_arcValue_46 : decode cX3_arcValue 46 = .ok (.ladd, 1) := by decide +kernel
theorem dX3_arcValue_47 : decode cX3_arcValue 47 = .ok (.lreturn, 1) := by decide +kernel
theorem dX3_arcValue_48 : decode cX3_arcValue 48 = .ok (.lload_n 1, 1) := by decide +kernel
theorem dX3_arcValue_49 : decode cX3_arcValue 49 = .ok (.lconst 1, 1) := by decide +kernel
theorem dX3_arcValue_50 : decode cX3_arcValue 50 = .ok (.lsub, 1) := by decide +kernel
theorem dX3_arcValue_51 : decode cX3_arcValue 51 = .ok (.lreturn, 1) := by decide +kernel
theorem dX3_arcValue_52 : decode cX3_arcValue 52 = .ok (.lload_n 1, 1) := by decide +kernel
theorem dX3_arcValue_53 : decode cX3_arcValue 53 = .ok (.ldc2_w 226, 3) := by decide +kernel
theorem dX3_arcValue_56 : decode cX3_arcValue 56 = .ok (.ldiv, 1) := by decide +kernel
theorem dX3_arcValue_57 : decode cX3_arcValue 57 = .ok (.lreturn, 1) := by decide +kernel
theorem dX3_arcValue_58 : decode cX3_arcValue 58 = .ok (.lload_n 1, 1) := by decide +kernel
theorem dX3_arcValue_59 : decode cX3_arcValue 59 = .ok (.lconst 0, 1) := by decide +kernel
theorem dX3_arcValue_60 : decode cX3_arcValue 60 = .ok (.lcmp, 1) := by decide +kernel
theorem dX3_arcValue_61 : decode cX3_arcValue 61 = .ok (.ifCond .ne 7, 3) := by decide +kernel
theorem dX3_arcValue_64 : decode cX3_arcValue 64 = .ok (.lconst 0, 1) := by decide +kernel
theorem dX3_arcValue_65 : decode cX3_arcValue 65 = .ok (.goto 8, 3) := by decide +kernel
theorem dX3_arcValue_68 : decode cX3_arcValue 68 = .ok (.ldc2_w 230, 3) := by decide +kernel
theorem dX3_arcValue_71 : decode cX3_arcValue 71 = .ok (.lload_n 1, 1) := by decide +kernel
theorem dX3_arcValue_72 : decode cX3_arcValue 72 = .ok (.ldiv, 1) := by decide +kernel
theorem dX3_arcValue_73 : decode cX3_arcValue 73 = .ok (.lreturn, 1) := by decide +kernel
theorem dX3_arcValue_74 : decode cX3_arcValue 74 = .ok (.lload_n 1, 1) := by decide +kernel
theorem dX3_arcValue_75 : decode cX3_arcValue 75 = .ok (.lconst 0, 1) := by decide +kernel
theorem dX3_arcValue_76 : decode cX3_arcValue 76 = .ok (.lcmp, 1) := by decide +kernel
theorem dX3_arcValue_77 : decode cX3_arcValue 77 = .ok (.ifCond .ne 7, 3) := by decide +kernel
theorem dX3_arcValue_80 : decode cX3_arcValue 80 = .ok (.lconst 0, 1) := by decide +kernel
theorem dX3_arcValue_81 : decode cX3_arcValue 81 = .ok (.goto 8, 3) := by decide +kernel
theorem dX3_arcValue_84 : decode cX3_arcValue 84 = .ok (.ldc2_w 230, 3) := by decide +kernel
theorem dX3_arcValue_87 : decode cX3_arcValue 87 = .ok (.lload_n 1, 1) := by decide +kernel
theorem dX3_arcValue_88 : decode cX3_arcValue 88 = .ok (.lrem, 1) := by decide +kernel
theorem dX3_arcValue_89 : decode cX3_arcValue 89 = .ok (.lreturn, 1) := by decide +kernel
theorem dX3_arcValue_90 : decode cX3_arcValue 90 = .ok (.lload_n 1, 1) := by decide +kernel
theorem dX3_arcValue_91 : decode cX3_arcValue 91 = .ok (.lconst 0, 1) := by decide +kernel
theorem dX3_arcValue_92 : decode cX3_arcValue 92 = .ok (.lcmp, 1) := by decide +kernel
theorem dX3_arcValue_93 : decode cX3_arcValue 93 = .ok (.ifCond .lt 13, 3) := by decide +kernel
theorem dX3_arcValue_96 : decode cX3_arcValue 96 = .ok (.lload_n 1, 1) := by decide +kernel
theorem dX3_arcValue_97 : decode cX3_arcValue 97 = .ok (.getstatic 216, 3) := by decide +kernel
theorem dX3_arcValue_100 : decode cX3_arcValue 100 = .ok (.arraylength, 1) := by decide +kernel
theorem dX3_arcValue_101 : decode cX3_arcValue 101 = .ok (.i2l, 1) := by decide +kernel
theorem dX3_arcValue_102 : decode cX3_arcValue 102 = .ok (.lcmp, 1) := by decide +kernel
theorem dX3_arcValue_103 : decode cX3_arcValue 103 = .ok (.ifCond .lt 7, 3) := by decide +kernel
theorem dX3_arcValue_106 : decode cX3_arcValue 106 = .ok (.lconst 0, 1) := by decide +kernel
theorem dX3_arcValue_107 : decode cX3_arcValue 107 = .ok (.goto 9, 3) := by decide +kernel
theorem dX3_arcValue_110 : decode cX3_arcValue 110 = .ok (.getstatic 216, 3) := by decide +kernel
theorem dX3_arcValue_113 : decode cX3_arcValue 113 = .ok (.lload_n 1, 1) := by decide +kernel
theorem dX3_arcValue_114 : decode cX3_arcValue 114 = .ok (.l2i, 1) := by decide +kernel
theorem dX3_arcValue_115 : decode cX3_arcValue 115 = .ok (.laload, 1) := by decide +kernel
theorem dX3_arcValue_116 : decode cX3_arcValue 116 = .ok (.lreturn, 1) := by decide +kernel
theorem dX3_arcValue_117 : decode cX3_arcValue 117 = .ok (.lload_n 1, 1) := by decide +kernel
theorem dX3_arcValue_118 : decode cX3_arcValue 118 = .ok (.lreturn, 1) := by decide +kernel
theorem dX3_arcValue_119 : decode cX3_arcValue 119 = .ok (.lconst 0, 1) := by decide +kernel
theorem dX3_arcValue_120 : decode cX3_arcValue 120 = .ok (.lreturn, 1) := by decide +kernel
set_option maxRecDepth 20000 in
theorem ggX3_valueOf_X3_nodeValue : GoodIn wsX3_valueOf wsX3_nodeValue := goodIn_r _ [4, 5, 6] (by decide +kernel) (by decide +kernel)
set_option maxRecDepth 20000 in
theorem gX3_valueOf_X3_nodeValue : GoodIn wsX3_valueOf (va_wsS RX3 219 yX3_nodeValue wsX3_nodeValue) := goodIn_app (goodIn_of _ (by decide +kernel)) ggX3_valueOf_X3_nodeValue
set_option maxRecDepth 20000 in
theorem ggX3_valueOf_X3_arcValue : GoodIn wsX3_valueOf wsX3_arcValue := goodIn_r _ [9, 5, 10, 11] (by decide +kernel) (by decide +kernel)
set_option maxRecDepth 20000 in
theorem gX3_valueOf_X3_arcValue : GoodIn wsX3_valueOf (va_wsS RX3 223 yX3_arcValue wsX3_arcValue) := goodIn_app (goodIn_of _ (by decide +kernel)) ggX3_valueOf_X3_arcValue
theorem dX3_valueOf_0 : decode cX3_valueOf 0 = .ok (.aload_n 0, 1) := by decide +kernel
theorem dX3_valueOf_1 : decode cX3_valueOf 1 = .ok (.getfield 155, 3) := by decide +kernel
theorem dX3_valueOf_4 : decode cX3_valueOf 4 = .ok (.lookupswitch 40 #[(0, 28), (1, 34)], 28) := by decide +kernel
theorem dX3_valueOf_32 : decode cX3_valueOf 32 = .ok (.iload_n 1, 1) := by decide +kernel
theorem dX3_valueOf_33 : decode cX3_valueOf 33 = .ok (.lload_n 2, 1) := by decide +kernel
theorem dX3_valueOf_34 : decode cX3_valueOf 34 = .ok (.invokestatic 219, 3) := by decide +kernel
theorem dX3_valueOf_37 : decode cX3_valueOf 37 = .ok (.lreturn, 1) := by decide +kernel
theorem dX3_valueOf_38 : decode cX3_valueOf 38 = .ok (.iload_n 1, 1) := by decide +kernel
theorem dX3_valueOf_39 : decode cX3_valueOf 39 = .ok (.lload_n 2, 1) := by decide +kernel
theorem dX3_valueOf_40 : decode cX3_valueOf 40 = .ok (.invokestatic 223, 3) := by decide +kernel
theorem dX3_valueOf_43 : decode cX3_valueOf 43 = .ok (.lreturn, 1) := by decide +kernel
theorem dX3_valueOf_44 : decode cX3_valueOf 44 = .ok (.lload_n 2, 1) := by decide +kernel
theorem dX3_valueOf_45 : decode cX3_valueOf 45 = .ok (.iload_n 1, 1) := by decide +kernel
theorem dX3_valueOf_46 : decode cX3_valueOf 46 = .ok (.i2l, 1) := by decide +kernel
theorem dX3_valueOf_47 : decode cX3_valueOf 47 = .ok (.lxor, 1) := by decide +kernel
theorem dX3_valueOf_48 : decode cX3_valueOf 48 = .ok (.lreturn, 1) := by decide +kernel
set_option maxRecDepth 20000 in
theorem ggX3_askRule_X0_startForRule : GoodIn wsX3_askRule wsX0_startForRule := goodIn_r _ [6, 7, 8, 28, 29, 30, 31, 32, 33, 34] (by decide +kernel) (by decide +kernel)
set_option maxRecDepth 20000 in
theorem gX3_askRule_X0_startForRule_n209 : GoodIn wsX3_askRule (wsX0_startForRule) := ggX3_askRule_X0_startForRule
set_option maxRecDepth 20000 in
theorem ggX3_askRule_X3_arcRuleAnswer : GoodIn wsX3_askRule wsX3_arcRuleAnswer := goodIn_r _ [12, 13] (by decide +kernel) (by decide +kernel)
set_option maxRecDepth 20000 in
theorem gX3_askRule_X3_arcRuleAnswer : GoodIn wsX3_askRule (va_wsS RX3 212 yX3_arcRuleAnswer wsX3_arcRuleAnswer) := goodIn_app (goodIn_of _ (by decide +kernel)) ggX3_askRule_X3_arcRuleAnswer
theorem dX3_askRule_0 : decode cX3_askRule 0 = .ok (.aload_n 1, 1) := by decide +kernel
theorem dX3_askRule_1 : decode cX3_askRule 1 = .ok (.invokevirtual 209, 3) := by decide +kernel
theorem dX3_askRule_4 : decode cX3_askRule 4 = .ok (.istore 5, 2) := by decide +kernel
theorem dX3_askRule_6 : decode cX3_askRule 6 = .ok (.iload 5, 2) := by decide +kernel
theorem dX3_askRule_8 : decode cX3_askRule 8 = .ok (.iconst 1, 1) := by decide +kernel
theorem dX3_askRule_9 : decode cX3_askRule 9 = .ok (.if_icmp .eq 6, 3) := by decide +kernel
theorem dX3_askRule_12 : decode cX3_askRule 12 = .ok (.iload 5, 2) := by decide +kernel
theorem dX3_askRule_14 : decode cX3_askRule 14 = .ok (.ireturn, 1) := by decide +kernel
theorem dX3_askRule_15 : decode cX3_askRule 15 = .ok (.aload_n 1, 1) := by decide +kernel
theorem dX3_askRule_16 : decode cX3_askRule 16 = .ok (.aload_n 0, 1) := by decide +kernel
theorem dX3_askRule_17 : decode cX3_askRule 17 = .ok (.getfield 25, 3) := by decide +kernel
theorem dX3_askRule_20 : decode cX3_askRule 20 = .ok (.if_acmp .ne 11, 3) := by decide +kernel
theorem dX3_askRule_23 : decode cX3_askRule 23 = .ok (.iload_n 2, 1) := by decide +kernel
theorem dX3_askRule_24 : decode cX3_askRule 24 = .ok (.lload_n 3, 1) := by decide +kernel
theorem dX3_askRule_25 : decode cX3_askRule 25 = .ok (.invokestatic 212, 3) := by decide +kernel
theorem dX3_askRule_28 : decode cX3_askRule 28 = .ok (.goto 4, 3) := by decide +kernel
theorem dX3_askRule_31 : decode cX3_askRule 31 = .ok (.iconst 1, 1) := by decide +kernel
theorem dX3_askRule_32 : decode cX3_askRule 32 = .ok (.istore 6, 2) := by decide +kernel
theorem dX3_askRule_34 : decode cX3_askRule 34 = .ok (.iload 6, 2) := by decide +kernel
theorem dX3_askRule_36 : decode cX3_askRule 36 = .ok (.iconst 1, 1) := by decide +kernel
theorem dX3_askRule_37 : decode cX3_askRule 37 = .ok (.if_icmp .eq 13, 3) := by decide +kernel
theorem dX3_askRule_40 : decode cX3_askRule 40 = .ok (.aload_n 0, 1) := by decide +kernel
theorem dX3_askRule_41 : decode cX3_askRule 41 = .ok (.dup, 1) := by decide +kernel
theorem dX3_askRule_42 : decode cX3_askRule 42 = .ok (.getfield 56, 3) := by decide +kernel
theorem dX3_askRule_45 : decode cX3_askRule 45 = .ok (.iconst 1, 1) := by decide +kernel
theorem dX3_askRule_46 : decode cX3_askRule 46 = .ok (.iadd, 1) := by decide +kernel
theorem dX3_askRule_47 : decode cX3_askRule 47 = .ok (.putfield 56, 3) := by decide +kernel
theorem dX3_askRule_50 : decode cX3_askRule 50 = .ok (.iload 6, 2) := by decide +kernel
theorem dX3_askRule_52 : decode cX3_askRule 52 = .ok (.ireturn, 1) := by decide +kernel
theorem dX3_joined_0 : decode cX3_joined 0 = .ok (.iload_n 0, 1) := by decide +kernel
theorem dX3_joined_1 : decode cX3_joined 1 = .ok (.tableswitch 59 0 2 #[27, 37, 47], 27) := by decide +kernel
theorem dX3_joined_28 : decode cX3_joined 28 = .ok (.aload_n 1, 1) := by decide +kernel
theorem dX3_joined_29 : decode cX3_joined 29 = .ok (.getfield 146, 3) := by decide +kernel
theorem dX3_joined_32 : decode cX3_joined 32 = .ok (.aload_n 2, 1) := by decide +kernel
theorem dX3_joined_33 : decode cX3_joined 33 = .ok (.getfield 146, 3) := by decide +kernel
theorem dX3_joined_36 : decode cX3_joined 36 = .ok (.ior, 1) := by decide +kernel
theorem dX3_joined_37 : decode cX3_joined 37 = .ok (.ireturn, 1) := by decide +kernel
theorem dX3_joined_38 : decode cX3_joined 38 = .ok (.aload_n 1, 1) := by decide +kernel
theorem dX3_joined_39 : decode cX3_joined 39 = .ok (.getfield 146, 3) := by decide +kernel
theorem dX3_joined_42 : decode cX3_joined 42 = .ok (.aload_n 2, 1) := by decide +kernel
theorem dX3_joined_43 : decode cX3_joined 43 = .ok (.getfield 146, 3) := by decide +kernel
theorem dX3_joined_46 : decode cX3_joined 46 = .ok (.iand, 1) := by decide +kernel
theorem dX3_joined_47 : decode cX3_joined 47 = .ok (.ireturn, 1) := by decide +kernel
theorem dX3_joined_48 : decode cX3_joined 48 = .ok (.aload_n 1, 1) := by decide +kernel
theorem dX3_joined_49 : decode cX3_joined 49 = .ok (.getfield 146, 3) := by decide +kernel
theorem dX3_joined_52 : decode cX3_joined 52 = .ok (.aload_n 2, 1) := by decide +kernel
theorem dX3_joined_53 : decode cX3_joined 53 = .ok (.getfield 146, 3) := by decide +kernel
theorem dX3_joined_56 : decode cX3_joined 56 = .ok (.iconst (-1), 1) := by decide +kernel
theorem dX3_joined_57 : decode cX3_joined 57 = .ok (.ixor, 1) := by decide +kernel
theorem dX3_joined_58 : decode cX3_joined 58 = .ok (.iand, 1) := by decide +kernel
theorem dX3_joined_59 : decode cX3_joined 59 = .ok (.ireturn, 1) := by decide +kernel
theorem dX3_joined_60 : decode cX3_joined 60 = .ok (.iconst 1, 1) := by decide +kernel
theorem dX3_joined_61 : decode cX3_joined 61 = .ok (.aload_n 1, 1) := by decide +kernel
theorem dX3_joined_62 : decode cX3_joined 62 = .ok (.getfield 140, 3) := by decide +kernel
theorem dX3_joined_65 : decode cX3_joined 65 = .ok (.getfield 153, 3) := by decide +kernel
theorem dX3_joined_68 : decode cX3_joined 68 = .ok (.ishl, 1) := by decide +kernel
theorem dX3_joined_69 : decode cX3_joined 69 = .ok (.iconst 1, 1) := by decide +kernel
theorem dX3_joined_70 : decode cX3_joined 70 = .ok (.isub, 1) := by decide +kernel
theorem dX3_joined_71 : decode cX3_joined 71 = .ok (.aload_n 1, 1) := by decide +kernel
theorem dX3_joined_72 : decode cX3_joined 72 = .ok (.getfield 146, 3) := by decide +kernel
theorem dX3_joined_75 : decode cX3_joined 75 = .ok (.iconst (-1), 1) := by decide +kernel
theorem dX3_joined_76 : decode cX3_joined 76 = .ok (.ixor, 1) := by decide +kernel
theorem dX3_joined_77 : decode cX3_joined 77 = .ok (.iand, 1) := by decide +kernel
theorem dX3_joined_78 : decode cX3_joined 78 = .ok (.ireturn, 1) := by decide +kernel
theorem dX3_kindOfItem_0 : decode cX3_kindOfItem 0 = .ok (.iload_n 2, 1) := by decide +kernel
theorem dX3_kindOfItem_1 : decode cX3_kindOfItem 1 = .ok (.ifCond .ne 8, 3) := by decide +kernel
theorem dX3_kindOfItem_4 : decode cX3_kindOfItem 4 = .ok (.aload_n 1, 1) := by decide +kernel
theorem dX3_kindOfItem_5 : decode cX3_kindOfItem 5 = .ok (.getfield 192, 3) := by decide +kernel
theorem dX3_kindOfItem_8 : decode cX3_kindOfItem 8 = .ok (.areturn, 1) := by decide +kernel
theorem dX3_kindOfItem_9 : decode cX3_kindOfItem 9 = .ok (.aload_n 1, 1) := by decide +kernel
theorem dX3_kindOfItem_10 : decode cX3_kindOfItem 10 = .ok (.aload_n 0, 1) := by decide +kernel
theorem dX3_kindOfItem_11 : decode cX3_kindOfItem 11 = .ok (.getfield 45, 3) := by decide +kernel
theorem dX3_kindOfItem_14 : decode cX3_kindOfItem 14 = .ok (.if_acmp .ne 15, 3) := by decide +kernel
theorem dX3_kindOfItem_17 : decode cX3_kindOfItem 17 = .ok (.iload_n 2, 1) := by decide +kernel
theorem dX3_kindOfItem_18 : decode cX3_kindOfItem 18 = .ok (.iconst 2, 1) := by decide +kernel
theorem dX3_kindOfItem_19 : decode cX3_kindOfItem 19 = .ok (.if_icmp .ne 10, 3) := by decide +kernel
theorem dX3_kindOfItem_22 : decode cX3_kindOfItem 22 = .ok (.aload_n 0, 1) := by decide +kernel
theorem dX3_kindOfItem_23 : decode cX3_kindOfItem 23 = .ok (.getfield 31, 3) := by decide +kernel
theorem dX3_kindOfItem_26 : decode cX3_kindOfItem 26 = .ok (.goto 4, 3) := by decide +kernel
theorem dX3_kindOfItem_29 : decode cX3_kindOfItem 29 = .ok (.aconst_null, 1) := by decide +kernel
theorem dX3_kindOfItem_30 : decode cX3_kindOfItem 30 = .ok (.areturn, 1) := by decide +kernel
set_option maxRecDepth 20000 in
theorem ggX3_toCell_X3_kindOfItem : GoodIn wsX3_toCell wsX3_kindOfItem := goodIn_r _ [5, 6, 7, 18, 19, 20, 21, 22, 23, 24, 25, 26, 27, 28, 29, 30, 31, 32, 33, 34, 35, 36] (by decide +kernel) (by decide +kernel)
set_option maxRecDepth 20000 in
theorem gX3_toCell_X3_kindOfItem : GoodIn wsX3_toCell (wsV RX3 232 RX3 yX3_kindOfItem wsX3_kindOfItem) := goodIn_app (goodIn_of _ (by decide +kernel)) ggX3_toCell_X3_kindOfItem
set_option maxRecDepth 20000 in
theorem ggX3_toCell_X0_constantOf : GoodIn wsX3_toCell wsX0_constantOf := goodIn_r _ [11, 12, 13, 14, 15, 9, 16, 17, 37, 38, 39, 40, 41, 42, 43] (by decide +kernel) (by decide +kernel)
set_option maxRecDepth 20000 in
theorem gX3_toCell_X0_constantOf_n94 : GoodIn wsX3_toCell (wsX0_constantOf) := ggX3_toCell_X0_constantOf
theorem dX3_toCell_0 : decode cX3_toCell 0 = .ok (.aload_n 0, 1) := by decide +kernel
theorem dX3_toCell_1 : decode cX3_toCell 1 = .ok (.aload_n 1, 1) := by decide +kernel
theorem dX3_toCell_2 : decode cX3_toCell 2 = .ok (.iload_n 2, 1) := by decide +kernel
theorem dX3_toCell_3 : decode cX3_toCell 3 = .ok (.invokevirtual 232, 3) := by decide +kernel
theorem dX3_toCell_6 : decode cX3_toCell 6 = .ok (.astore 4, 2) := by decide +kernel
theorem dX3_toCell_8 : decode cX3_toCell 8 = .ok (.aload 4, 2) := by decide +kernel
theorem dX3_toCell_10 : decode cX3_toCell 10 = .ok (.ifnonnull 7, 3) := by decide +kernel
theorem dX3_toCell_13 : decode cX3_toCell 13 = .ok (.iload_n 3, 1) := by decide +kernel
theorem dX3_toCell_14 : decode cX3_toCell 14 = .ok (.goto 9, 3) := by decide +kernel
theorem dX3_toCell_17 : decode cX3_toCell 17 = .ok (.aload 4, 2) := by decide +kernel
theorem dX3_toCell_19 : decode cX3_toCell 19 = .ok (.iload_n 3, 1) := by decide +kernel
theorem dX3_toCell_20 : decode cX3_toCell 20 = .ok (.invokevirtual 94, 3) := by decide +kernel
theorem dX3_toCell_23 : decode cX3_toCell 23 = .ok (.ireturn, 1) := by decide +kernel
set_option maxRecDepth 20000 in
theorem ggX3_fromCell_X3_kindOfItem : GoodIn wsX3_fromCell wsX3_kindOfItem := goodIn_r _ [5, 6, 7, 18, 19, 20, 21, 22, 23, 24, 25, 26, 27, 28, 29, 30, 31, 32, 33, 34, 35, 36] (by decide +kernel) (by decide +kernel)
set_option maxRecDepth 20000 in
theorem gX3_fromCell_X3_kindOfItem : GoodIn wsX3_fromCell (wsV RX3 232 RX3 yX3_kindOfItem wsX3_kindOfItem) := goodIn_app (goodIn_of _ (by decide +kernel)) ggX3_fromCell_X3_kindOfItem
set_option maxRecDepth 20000 in
theorem ggX3_fromCell_X0_codeOf : GoodIn wsX3_fromCell wsX0_codeOf := goodIn_r _ [11, 12, 13, 14, 15, 9, 16, 17, 37, 38, 39, 40, 41, 42, 43] (by decide +kernel) (by decide +kernel)
set_option maxRecDepth 20000 in
theorem gX3_fromCell_X0_codeOf_n90 : GoodIn wsX3_fromCell (wsX0_codeOf) := ggX3_fromCell_X0_codeOf
theorem dX3_fromCell_0 : decode cX3_fromCell 0 = .ok (.aload_n 0, 1) := by decide +kernel
theorem dX3_fromCell_1 : decode cX3_fromCell 1 = .ok (.aload_n 1, 1) := by decide +kernel
theorem dX3_fromCell_2 : decode cX3_fromCell 2 = .ok (.iload_n 2, 1) := by decide +kernel
theorem dX3_fromCell_3 : decode cX3_fromCell 3 = .ok (.invokevirtual 232, 3) := by decide +kernel
theorem dX3_fromCell_6 : decode cX3_fromCell 6 = .ok (.astore 4, 2) := by decide +kernel
theorem dX3_fromCell_8 : decode cX3_fromCell 8 = .ok (.aload 4, 2) := by decide +kernel
theorem dX3_fromCell_10 : decode cX3_fromCell 10 = .ok (.ifnonnull 7, 3) := by decide +kernel
theorem dX3_fromCell_13 : decode cX3_fromCell 13 = .ok (.iload_n 3, 1) := by decide +kernel
theorem dX3_fromCell_14 : decode cX3_fromCell 14 = .ok (.goto 9, 3) := by decide +kernel
theorem dX3_fromCell_17 : decode cX3_fromCell 17 = .ok (.aload 4, 2) := by decide +kernel
theorem dX3_fromCell_19 : decode cX3_fromCell 19 = .ok (.iload_n 3, 1) := by decide +kernel
theorem dX3_fromCell_20 : decode cX3_fromCell 20 = .ok (.invokevirtual 90, 3) := by decide +kernel
theorem dX3_fromCell_23 : decode cX3_fromCell 23 = .ok (.ireturn, 1) := by decide +kernel
set_option maxRecDepth 20000 in
theorem ggX3_highestOf_X3_kindOfItem : GoodIn wsX3_highestOf wsX3_kindOfItem := goodIn_r _ [7, 1, 8, 16, 17, 18, 19, 20, 21, 22, 23, 24, 25, 26, 27, 28, 29, 30, 31, 32, 33, 34] (by decide +kernel) (by decide +kernel)
set_option maxRecDepth 20000 in
theorem gX3_highestOf_X3_kindOfItem : GoodIn wsX3_highestOf (wsV RX3 232 RX3 yX3_kindOfItem wsX3_kindOfItem) := goodIn_app (goodIn_of _ (by decide +kernel)) ggX3_highestOf_X3_kindOfItem
theorem dX3_highestOf_0 : decode cX3_highestOf 0 = .ok (.aload_n 0, 1) := by decide +kernel
theorem dX3_highestOf_1 : decode cX3_highestOf 1 = .ok (.aload_n 1, 1) := by decide +kernel
theorem dX3_highestOf_2 : decode cX3_highestOf 2 = .ok (.iload_n 2, 1) := by decide +kernel
theorem dX3_highestOf_3 : decode cX3_highestOf 3 = .ok (.invokevirtual 232, 3) := by decide +kernel
theorem dX3_highestOf_6 : decode cX3_highestOf 6 = .ok (.astore_n 3, 1) := by decide +kernel
theorem dX3_highestOf_7 : decode cX3_highestOf 7 = .ok (.aload_n 3, 1) := by decide +kernel
theorem dX3_highestOf_8 : decode cX3_highestOf 8 = .ok (.ifnull 10, 3) := by decide +kernel
theorem dX3_highestOf_11 : decode cX3_highestOf 11 = .ok (.aload_n 3, 1) := by decide +kernel
theorem dX3_highestOf_12 : decode cX3_highestOf 12 = .ok (.getfield 153, 3) := by decide +kernel
theorem dX3_highestOf_15 : decode cX3_highestOf 15 = .ok (.iconst 1, 1) := by decide +kernel
theorem dX3_highestOf_16 : decode cX3_highestOf 16 = .ok (.isub, 1) := by decide +kernel
theorem dX3_highestOf_17 : decode cX3_highestOf 17 = .ok (.ireturn, 1) := by decide +kernel
theorem dX3_highestOf_18 : decode cX3_highestOf 18 = .ok (.iload_n 2, 1) := by decide +kernel
theorem dX3_highestOf_19 : decode cX3_highestOf 19 = .ok (.aload_n 1, 1) := by decide +kernel
theorem dX3_highestOf_20 : decode cX3_highestOf 20 = .ok (.getfield 206, 3) := by decide +kernel
theorem dX3_highestOf_23 : decode cX3_highestOf 23 = .ok (.if_icmp .ne 20, 3) := by decide +kernel
theorem dX3_highestOf_26 : decode cX3_highestOf 26 = .ok (.aload_n 1, 1) := by decide +kernel
theorem dX3_highestOf_27 : decode cX3_highestOf 27 = .ok (.aload_n 0, 1) := by decide +kernel
theorem dX3_highestOf_28 : decode cX3_highestOf 28 = .ok (.getfield 45, 3) := by decide +kernel
theorem dX3_highestOf_31 : decode cX3_highestOf 31 = .ok (.if_acmp .ne 9, 3) := by decide +kernel
theorem dX3_highestOf_34 : decode cX3_highestOf 34 = .ok (.sipush 1000, 3) := by decide +kernel
theorem dX3_highestOf_37 : decode cX3_highestOf 37 = .ok (.goto 5, 3) := by decide +kernel
theorem dX3_highestOf_40 : decode cX3_highestOf 40 = .ok (.ldc 240, 2) := by decide +kernel
theorem dX3_highestOf_42 : decode cX3_highestOf 42 = .ok (.ireturn, 1) := by decide +kernel
theorem dX3_highestOf_43 : decode cX3_highestOf 43 = .ok (.aload_n 0, 1) := by decide +kernel
theorem dX3_highestOf_44 : decode cX3_highestOf 44 = .ok (.getfield 45, 3) := by decide +kernel
theorem dX3_highestOf_47 : decode cX3_highestOf 47 = .ok (.getfield 162, 3) := by decide +kernel
theorem dX3_highestOf_50 : decode cX3_highestOf 50 = .ok (.iconst 1, 1) := by decide +kernel
theorem dX3_highestOf_51 : decode cX3_highestOf 51 = .ok (.isub, 1) := by decide +kernel
theorem dX3_highestOf_52 : decode cX3_highestOf 52 = .ok (.ireturn, 1) := by decide +kernel
set_option maxRecDepth 20000 in
theorem ggX3_wrongItem_X3_highestOf : GoodIn wsX3_wrongItem wsX3_highestOf := goodIn_r _ [7, 8, 9, 10, 11, 12, 6, 13, 14, 37, 38, 39, 40, 41, 42, 43, 18, 19, 20, 21, 22, 23, 24, 25, 26, 27, 28, 29, 30, 31, 32, 33, 34, 35, 36] (by decide +kernel) (by decide +kernel)
set_option maxRecDepth 20000 in
theorem gX3_wrongItem_X3_highestOf : GoodIn wsX3_wrongItem (wsV RX3 236 RX3 yX3_highestOf wsX3_highestOf) := goodIn_app (goodIn_of _ (by decide +kernel)) ggX3_wrongItem_X3_highestOf
set_option maxRecDepth 20000 in
theorem ggX3_wrongItem_X3_isFromTo : GoodIn wsX3_wrongItem wsX3_isFromTo := goodIn_r _ [17] (by decide +kernel) (by decide +kernel)
set_option maxRecDepth 20000 in
theorem gX3_wrongItem_X3_isFromTo : GoodIn wsX3_wrongItem (va_wsS RX3 196 yX3_isFromTo wsX3_isFromTo) := goodIn_app (goodIn_of _ (by decide +kernel)) ggX3_wrongItem_X3_isFromTo
theorem dX3_wrongItem_0 : decode cX3_wrongItem 0 = .ok (.iconst 0, 1) := by decide +kernel
theorem dX3_wrongItem_1 : decode cX3_wrongItem 1 = .ok (.istore_n 2, 1) := by decide +kernel
theorem dX3_wrongItem_2 : decode cX3_wrongItem 2 = .ok (.iload_n 2, 1) := by decide +kernel
theorem dX3_wrongItem_3 : decode cX3_wrongItem 3 = .ok (.aload_n 1, 1) := by decide +kernel
theorem dX3_wrongItem_4 : decode cX3_wrongItem 4 = .ok (.getfield 171, 3) := by decide +kernel
theorem dX3_wrongItem_7 : decode cX3_wrongItem 7 = .ok (.if_icmp .ge 30, 3) := by decide +kernel
theorem dX3_wrongItem_10 : decode cX3_wrongItem 10 = .ok (.aload_n 0, 1) := by decide +kernel
theorem dX3_wrongItem_11 : decode cX3_wrongItem 11 = .ok (.getfield 63, 3) := by decide +kernel
theorem dX3_wrongItem_14 : decode cX3_wrongItem 14 = .ok (.iload_n 2, 1) := by decide +kernel
theorem dX3_wrongItem_15 : decode cX3_wrongItem 15 = .ok (.iaload, 1) := by decide +kernel
theorem dX3_wrongItem_16 : decode cX3_wrongItem 16 = .ok (.iconst 0, 1) := by decide +kernel
theorem dX3_wrongItem_17 : decode cX3_wrongItem 17 = .ok (.aload_n 0, 1) := by decide +kernel
theorem dX3_wrongItem_18 : decode cX3_wrongItem 18 = .ok (.aload_n 1, 1) := by decide +kernel
theorem dX3_wrongItem_19 : decode cX3_wrongItem 19 = .ok (.iload_n 2, 1) := by decide +kernel
theorem dX3_wrongItem_20 : decode cX3_wrongItem 20 = .ok (.invokevirtual 236, 3) := by decide +kernel
theorem dX3_wrongItem_23 : decode cX3_wrongItem 23 = .ok (.invokestatic 196, 3) := by decide +kernel
theorem dX3_wrongItem_26 : decode cX3_wrongItem 26 = .ok (.ifCond .ne 5, 3) := by decide +kernel
theorem dX3_wrongItem_29 : decode cX3_wrongItem 29 = .ok (.iload_n 2, 1) := by decide +kernel
theorem dX3_wrongItem_30 : decode cX3_wrongItem 30 = .ok (.ireturn, 1) := by decide +kernel
theorem dX3_wrongItem_31 : decode cX3_wrongItem 31 = .ok (.iinc 2 1, 3) := by decide +kernel
theorem dX3_wrongItem_34 : decode cX3_wrongItem 34 = .ok (.goto (-32), 3) := by decide +kernel
theorem dX3_wrongItem_37 : decode cX3_wrongItem 37 = .ok (.aload_n 1, 1) := by decide +kernel
theorem dX3_wrongItem_38 : decode cX3_wrongItem 38 = .ok (.aload_n 0, 1) := by decide +kernel
theorem dX3_wrongItem_39 : decode cX3_wrongItem 39 = .ok (.getfield 49, 3) := by decide +kernel
theorem dX3_wrongItem_42 : decode cX3_wrongItem 42 = .ok (.if_acmp .ne 22, 3) := by decide +kernel
theorem dX3_wrongItem_45 : decode cX3_wrongItem 45 = .ok (.aload_n 0, 1) := by decide +kernel
theorem dX3_wrongItem_46 : decode cX3_wrongItem 46 = .ok (.getfield 63, 3) := by decide +kernel
theorem dX3_wrongItem_49 : decode cX3_wrongItem 49 = .ok (.iconst 1, 1) := by decide +kernel
theorem dX3_wrongItem_50 : decode cX3_wrongItem 50 = .ok (.iaload, 1) := by decide +kernel
theorem dX3_wrongItem_51 : decode cX3_wrongItem 51 = .ok (.aload_n 0, 1) := by decide +kernel
theorem dX3_wrongItem_52 : decode cX3_wrongItem 52 = .ok (.getfield 63, 3) := by decide +kernel
theorem dX3_wrongItem_55 : decode cX3_wrongItem 55 = .ok (.iconst 2, 1) := by decide +kernel
theorem dX3_wrongItem_56 : decode cX3_wrongItem 56 = .ok (.iaload, 1) := by decide +kernel
theorem dX3_wrongItem_57 : decode cX3_wrongItem 57 = .ok (.if_icmp .ne 7, 3) := by decide +kernel
theorem dX3_wrongItem_60 : decode cX3_wrongItem 60 = .ok (.iconst 2, 1) := by decide +kernel
theorem dX3_wrongItem_61 : decode cX3_wrongItem 61 = .ok (.goto 4, 3) := by decide +kernel
theorem dX3_wrongItem_64 : decode cX3_wrongItem 64 = .ok (.iconst (-1), 1) := by decide +kernel
theorem dX3_wrongItem_65 : decode cX3_wrongItem 65 = .ok (.ireturn, 1) := by decide +kernel
