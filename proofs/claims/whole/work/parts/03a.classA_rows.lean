theorem dJ6_bitCount_0f7a4_0 : decode cJ6_bitCount_0f7a4 0 = .ok (.iload_n 0, 1) := by decide +kernel
theorem dJ6_bitCount_0f7a4_1 : decode cJ6_bitCount_0f7a4 1 = .ok (.iload_n 0, 1) := by decide +kernel
theorem dJ6_bitCount_0f7a4_2 : decode cJ6_bitCount_0f7a4 2 = .ok (.iconst 1, 1) := by decide +kernel
theorem dJ6_bitCount_0f7a4_3 : decode cJ6_bitCount_0f7a4 3 = .ok (.iushr, 1) := by decide +kernel
theorem dJ6_bitCount_0f7a4_4 : decode cJ6_bitCount_0f7a4 4 = .ok (.ldc_w 265, 3) := by decide +kernel
theorem dJ6_bitCount_0f7a4_7 : decode cJ6_bitCount_0f7a4 7 = .ok (.iand, 1) := by decide +kernel
theorem dJ6_bitCount_0f7a4_8 : decode cJ6_bitCount_0f7a4 8 = .ok (.isub, 1) := by decide +kernel
theorem dJ6_bitCount_0f7a4_9 : decode cJ6_bitCount_0f7a4 9 = .ok (.istore_n 0, 1) := by decide +kernel
theorem dJ6_bitCount_0f7a4_10 : decode cJ6_bitCount_0f7a4 10 = .ok (.iload_n 0, 1) := by decide +kernel
theorem dJ6_bitCount_0f7a4_11 : decode cJ6_bitCount_0f7a4 11 = .ok (.ldc_w 266, 3) := by decide +kernel
theorem dJ6_bitCount_0f7a4_14 : decode cJ6_bitCount_0f7a4 14 = .ok (.iand, 1) := by decide +kernel
theorem dJ6_bitCount_0f7a4_15 : decode cJ6_bitCount_0f7a4 15 = .ok (.iload_n 0, 1) := by decide +kernel
theorem dJ6_bitCount_0f7a4_16 : decode cJ6_bitCount_0f7a4 16 = .ok (.iconst 2, 1) := by decide +kernel
theorem dJ6_bitCount_0f7a4_17 : decode cJ6_bitCount_0f7a4 17 = .ok (.iushr, 1) := by decide +kernel
theorem dJ6_bitCount_0f7a4_18 : decode cJ6_bitCount_0f7a4 18 = .ok (.ldc_w 266, 3) := by decide +kernel
theorem dJ6_bitCount_0f7a4_21 : decode cJ6_bitCount_0f7a4 21 = .ok (.iand, 1) := by decide +kernel
theorem dJ6_bitCount_0f7a4_22 : decode cJ6_bitCount_0f7a4 22 = .ok (.iadd, 1) := by decide +kernel
theorem dJ6_bitCount_0f7a4_23 : decode cJ6_bitCount_0f7a4 23 = .ok (.istore_n 0, 1) := by decide +kernel
theorem dJ6_bitCount_0f7a4_24 : decode cJ6_bitCount_0f7a4 24 = .ok (.iload_n 0, 1) := by decide +kernel
theorem dJ6_bitCount_0f7a4_25 : decode cJ6_bitCount_0f7a4 25 = .ok (.iload_n 0, 1) := by decide +kernel
theorem dJ6_bitCount_0f7a4_26 : decode cJ6_bitCount_0f7a4 26 = .ok (.iconst 4, 1) := by decide +kernel
theorem dJ6_bitCount_0f7a4_27 : decode cJ6_bitCount_0f7a4 27 = .ok (.iushr, 1) := by decide +kernel
theorem dJ6_bitCount_0f7a4_28 : decode cJ6_bitCount_0f7a4 28 = .ok (.iadd, 1) := by decide +kernel
theorem dJ6_bitCount_0f7a4_29 : decode cJ6_bitCount_0f7a4 29 = .ok (.ldc_w 267, 3) := by decide +kernel
theorem dJ6_bitCount_0f7a4_32 : decode cJ6_bitCount_0f7a4 32 = .ok (.iand, 1) := by decide +kernel
theorem dJ6_bitCount_0f7a4_33 : decode cJ6_bitCount_0f7a4 33 = .ok (.istore_n 0, 1) := by decide +kernel
theorem dJ6_bitCount_0f7a4_34 : decode cJ6_bitCount_0f7a4 34 = .ok (.iload_n 0, 1) := by decide +kernel
theorem dJ6_bitCount_0f7a4_35 : decode cJ6_bitCount_0f7a4 35 = .ok (.iload_n 0, 1) := by decide +kernel
theorem dJ6_bitCount_0f7a4_36 : decode cJ6_bitCount_0f7a4 36 = .ok (.bipush 8, 2) := by decide +kernel
theorem dJ6_bitCount_0f7a4_38 : decode cJ6_bitCount_0f7a4 38 = .ok (.iushr, 1) := by decide +kernel
theorem dJ6_bitCount_0f7a4_39 : decode cJ6_bitCount_0f7a4 39 = .ok (.iadd, 1) := by decide +kernel
theorem dJ6_bitCount_0f7a4_40 : decode cJ6_bitCount_0f7a4 40 = .ok (.istore_n 0, 1) := by decide +kernel
theorem dJ6_bitCount_0f7a4_41 : decode cJ6_bitCount_0f7a4 41 = .ok (.iload_n 0, 1) := by decide +kernel
theorem dJ6_bitCount_0f7a4_42 : decode cJ6_bitCount_0f7a4 42 = .ok (.iload_n 0, 1) := by decide +kernel
theorem dJ6_bitCount_0f7a4_43 : decode cJ6_bitCount_0f7a4 43 = .ok (.bipush 16, 2) := by decide +kernel
theorem dJ6_bitCount_0f7a4_45 : decode cJ6_bitCount_0f7a4 45 = .ok (.iushr, 1) := by decide +kernel
theorem dJ6_bitCount_0f7a4_46 : decode cJ6_bitCount_0f7a4 46 = .ok (.iadd, 1) := by decide +kernel
theorem dJ6_bitCount_0f7a4_47 : decode cJ6_bitCount_0f7a4 47 = .ok (.istore_n 0, 1) := by decide +kernel
theorem dJ6_bitCount_0f7a4_48 : decode cJ6_bitCount_0f7a4 48 = .ok (.iload_n 0, 1) := by decide +kernel
theorem dJ6_bitCount_0f7a4_49 : decode cJ6_bitCount_0f7a4 49 = .ok (.bipush 63, 2) := by decide +kernel
theorem dJ6_bitCount_0f7a4_51 : decode cJ6_bitCount_0f7a4 51 = .ok (.iand, 1) := by decide +kernel
theorem dJ6_bitCount_0f7a4_52 : decode cJ6_bitCount_0f7a4 52 = .ok (.ireturn, 1) := by decide +kernel
theorem dX0_has_0 : decode cX0_has 0 = .ok (.iload_n 1, 1) := by decide +kernel
theorem dX0_has_1 : decode cX0_has 1 = .ok (.ifCond .lt 15, 3) := by decide +kernel
theorem dX0_has_4 : decode cX0_has 4 = .ok (.iload_n 1, 1) := by decide +kernel
theorem dX0_has_5 : decode cX0_has 5 = .ok (.aload_n 0, 1) := by decide +kernel
theorem dX0_has_6 : decode cX0_has 6 = .ok (.getfield 26, 3) := by decide +kernel
theorem dX0_has_9 : decode cX0_has 9 = .ok (.if_icmp .ge 7, 3) := by decide +kernel
theorem dX0_has_12 : decode cX0_has 12 = .ok (.iconst 1, 1) := by decide +kernel
theorem dX0_has_13 : decode cX0_has 13 = .ok (.goto 4, 3) := by decide +kernel
theorem dX0_has_16 : decode cX0_has 16 = .ok (.iconst 0, 1) := by decide +kernel
theorem dX0_has_17 : decode cX0_has 17 = .ok (.ireturn, 1) := by decide +kernel
set_option maxRecDepth 20000 in
theorem ggX0_constantOf_X0_has : GoodIn wsX0_constantOf wsX0_has := goodIn_r _ [6, 7, 8, 9, 10, 11, 12, 13, 14] (by decide +kernel) (by decide +kernel)
set_option maxRecDepth 20000 in
theorem gX0_constantOf_X0_has : GoodIn wsX0_constantOf (wsV RX0 36 RX0 yX0_has wsX0_has) := goodIn_app (goodIn_of _ (by decide +kernel)) ggX0_constantOf_X0_has
theorem dX0_constantOf_0 : decode cX0_constantOf 0 = .ok (.aload_n 0, 1) := by decide +kernel
theorem dX0_constantOf_1 : decode cX0_constantOf 1 = .ok (.iload_n 1, 1) := by decide +kernel
theorem dX0_constantOf_2 : decode cX0_constantOf 2 = .ok (.invokevirtual 36, 3) := by decide +kernel
theorem dX0_constantOf_5 : decode cX0_constantOf 5 = .ok (.ifCond .eq 12, 3) := by decide +kernel
theorem dX0_constantOf_8 : decode cX0_constantOf 8 = .ok (.aload_n 0, 1) := by decide +kernel
theorem dX0_constantOf_9 : decode cX0_constantOf 9 = .ok (.getfield 29, 3) := by decide +kernel
theorem dX0_constantOf_12 : decode cX0_constantOf 12 = .ok (.iload_n 1, 1) := by decide +kernel
theorem dX0_constantOf_13 : decode cX0_constantOf 13 = .ok (.iaload, 1) := by decide +kernel
theorem dX0_constantOf_14 : decode cX0_constantOf 14 = .ok (.goto 4, 3) := by decide +kernel
theorem dX0_constantOf_17 : decode cX0_constantOf 17 = .ok (.iconst (-1), 1) := by decide +kernel
theorem dX0_constantOf_18 : decode cX0_constantOf 18 = .ok (.ireturn, 1) := by decide +kernel
set_option maxRecDepth 20000 in
theorem ggX0_codeOf_X0_has : GoodIn wsX0_codeOf wsX0_has := goodIn_r _ [6, 7, 8, 9, 10, 11, 12, 13, 14] (by decide +kernel) (by decide +kernel)
set_option maxRecDepth 20000 in
theorem gX0_codeOf_X0_has : GoodIn wsX0_codeOf (wsV RX0 36 RX0 yX0_has wsX0_has) := goodIn_app (goodIn_of _ (by decide +kernel)) ggX0_codeOf_X0_has
theorem dX0_codeOf_0 : decode cX0_codeOf 0 = .ok (.aload_n 0, 1) := by decide +kernel
theorem dX0_codeOf_1 : decode cX0_codeOf 1 = .ok (.iload_n 1, 1) := by decide +kernel
theorem dX0_codeOf_2 : decode cX0_codeOf 2 = .ok (.invokevirtual 36, 3) := by decide +kernel
theorem dX0_codeOf_5 : decode cX0_codeOf 5 = .ok (.ifCond .eq 12, 3) := by decide +kernel
theorem dX0_codeOf_8 : decode cX0_codeOf 8 = .ok (.aload_n 0, 1) := by decide +kernel
theorem dX0_codeOf_9 : decode cX0_codeOf 9 = .ok (.getfield 33, 3) := by decide +kernel
theorem dX0_codeOf_12 : decode cX0_codeOf 12 = .ok (.iload_n 1, 1) := by decide +kernel
theorem dX0_codeOf_13 : decode cX0_codeOf 13 = .ok (.iaload, 1) := by decide +kernel
theorem dX0_codeOf_14 : decode cX0_codeOf 14 = .ok (.goto 4, 3) := by decide +kernel
theorem dX0_codeOf_17 : decode cX0_codeOf 17 = .ok (.iconst (-1), 1) := by decide +kernel
theorem dX0_codeOf_18 : decode cX0_codeOf 18 = .ok (.ireturn, 1) := by decide +kernel
theorem dX0_constantNamed_0 : decode cX0_constantNamed 0 = .ok (.iconst 0, 1) := by decide +kernel
theorem dX0_constantNamed_1 : decode cX0_constantNamed 1 = .ok (.istore_n 3, 1) := by decide +kernel
theorem dX0_constantNamed_2 : decode cX0_constantNamed 2 = .ok (.iload_n 3, 1) := by decide +kernel
theorem dX0_constantNamed_3 : decode cX0_constantNamed 3 = .ok (.aload_n 0, 1) := by decide +kernel
theorem dX0_constantNamed_4 : decode cX0_constantNamed 4 = .ok (.getfield 26, 3) := by decide +kernel
theorem dX0_constantNamed_7 : decode cX0_constantNamed 7 = .ok (.if_icmp .ge 22, 3) := by decide +kernel
theorem dX0_constantNamed_10 : decode cX0_constantNamed 10 = .ok (.aload_n 0, 1) := by decide +kernel
theorem dX0_constantNamed_11 : decode cX0_constantNamed 11 = .ok (.getfield 22, 3) := by decide +kernel
theorem dX0_constantNamed_14 : decode cX0_constantNamed 14 = .ok (.iload_n 3, 1) := by decide +kernel
theorem dX0_constantNamed_15 : decode cX0_constantNamed 15 = .ok (.laload, 1) := by decide +kernel
theorem dX0_constantNamed_16 : decode cX0_constantNamed 16 = .ok (.lload_n 1, 1) := by decide +kernel
theorem dX0_constantNamed_17 : decode cX0_constantNamed 17 = .ok (.lcmp, 1) := by decide +kernel
theorem dX0_constantNamed_18 : decode cX0_constantNamed 18 = .ok (.ifCond .ne 5, 3) := by decide +kernel
theorem dX0_constantNamed_21 : decode cX0_constantNamed 21 = .ok (.iload_n 3, 1) := by decide +kernel
theorem dX0_constantNamed_22 : decode cX0_constantNamed 22 = .ok (.ireturn, 1) := by decide +kernel
theorem dX0_constantNamed_23 : decode cX0_constantNamed 23 = .ok (.iinc 3 1, 3) := by decide +kernel
theorem dX0_constantNamed_26 : decode cX0_constantNamed 26 = .ok (.goto (-24), 3) := by decide +kernel
theorem dX0_constantNamed_29 : decode cX0_constantNamed 29 = .ok (.iconst (-1), 1) := by decide +kernel
theorem dX0_constantNamed_30 : decode cX0_constantNamed 30 = .ok (.ireturn, 1) := by decide +kernel
set_option maxRecDepth 20000 in
theorem ggX0_nameOf_X0_has : GoodIn wsX0_nameOf wsX0_has := goodIn_r _ [6, 7, 8, 9, 10, 11, 12, 13, 14] (by decide +kernel) (by decide +kernel)
set_option maxRecDepth 20000 in
theorem gX0_nameOf_X0_has : GoodIn wsX0_nameOf (wsV RX0 36 RX0 yX0_has wsX0_has) := goodIn_app (goodIn_of _ (by decide +kernel)) ggX0_nameOf_X0_has
theorem dX0_nameOf_0 : decode cX0_nameOf 0 = .ok (.aload_n 0, 1) := by decide +kernel
theorem dX0_nameOf_1 : decode cX0_nameOf 1 = .ok (.iload_n 1, 1) := by decide +kernel
theorem dX0_nameOf_2 : decode cX0_nameOf 2 = .ok (.invokevirtual 36, 3) := by decide +kernel
theorem dX0_nameOf_5 : decode cX0_nameOf 5 = .ok (.ifCond .eq 12, 3) := by decide +kernel
theorem dX0_nameOf_8 : decode cX0_nameOf 8 = .ok (.aload_n 0, 1) := by decide +kernel
theorem dX0_nameOf_9 : decode cX0_nameOf 9 = .ok (.getfield 22, 3) := by decide +kernel
theorem dX0_nameOf_12 : decode cX0_nameOf 12 = .ok (.iload_n 1, 1) := by decide +kernel
theorem dX0_nameOf_13 : decode cX0_nameOf 13 = .ok (.laload, 1) := by decide +kernel
theorem dX0_nameOf_14 : decode cX0_nameOf 14 = .ok (.goto 4, 3) := by decide +kernel
theorem dX0_nameOf_17 : decode cX0_nameOf 17 = .ok (.lconst 0, 1) := by decide +kernel
theorem dX0_nameOf_18 : decode cX0_nameOf 18 = .ok (.lreturn, 1) := by decide +kernel
set_option maxRecDepth 20000 in
theorem ggX0_giveCode_X0_has : GoodIn wsX0_giveCode wsX0_has := goodIn_r _ [7, 8, 9, 10, 11, 12, 13, 14, 15] (by decide +kernel) (by decide +kernel)
set_option maxRecDepth 20000 in
theorem gX0_giveCode_X0_has : GoodIn wsX0_giveCode (wsV RX0 36 RX0 yX0_has wsX0_has) := goodIn_app (goodIn_of _ (by decide +kernel)) ggX0_giveCode_X0_has
theorem dX0_giveCode_0 : decode cX0_giveCode 0 = .ok (.aload_n 0, 1) := by decide +kernel
theorem dX0_giveCode_1 : decode cX0_giveCode 1 = .ok (.iload_n 1, 1) := by decide +kernel
theorem dX0_giveCode_2 : decode cX0_giveCode 2 = .ok (.invokevirtual 36, 3) := by decide +kernel
theorem dX0_giveCode_5 : decode cX0_giveCode 5 = .ok (.ifCond .eq 25, 3) := by decide +kernel
theorem dX0_giveCode_8 : decode cX0_giveCode 8 = .ok (.aload_n 0, 1) := by decide +kernel
theorem dX0_giveCode_9 : decode cX0_giveCode 9 = .ok (.iload_n 2, 1) := by decide +kernel
theorem dX0_giveCode_10 : decode cX0_giveCode 10 = .ok (.invokevirtual 36, 3) := by decide +kernel
theorem dX0_giveCode_13 : decode cX0_giveCode 13 = .ok (.ifCond .eq 17, 3) := by decide +kernel
theorem dX0_giveCode_16 : decode cX0_giveCode 16 = .ok (.aload_n 0, 1) := by decide +kernel
theorem dX0_giveCode_17 : decode cX0_giveCode 17 = .ok (.getfield 29, 3) := by decide +kernel
theorem dX0_giveCode_20 : decode cX0_giveCode 20 = .ok (.iload_n 2, 1) := by decide +kernel
theorem dX0_giveCode_21 : decode cX0_giveCode 21 = .ok (.iload_n 1, 1) := by decide +kernel
theorem dX0_giveCode_22 : decode cX0_giveCode 22 = .ok (.iastore, 1) := by decide +kernel
theorem dX0_giveCode_23 : decode cX0_giveCode 23 = .ok (.aload_n 0, 1) := by decide +kernel
theorem dX0_giveCode_24 : decode cX0_giveCode 24 = .ok (.getfield 33, 3) := by decide +kernel
theorem dX0_giveCode_27 : decode cX0_giveCode 27 = .ok (.iload_n 1, 1) := by decide +kernel
theorem dX0_giveCode_28 : decode cX0_giveCode 28 = .ok (.iload_n 2, 1) := by decide +kernel
theorem dX0_giveCode_29 : decode cX0_giveCode 29 = .ok (.iastore, 1) := by decide +kernel
theorem dX0_giveCode_30 : decode cX0_giveCode 30 = .ok (.return_, 1) := by decide +kernel
set_option maxRecDepth 20000 in
theorem ggX0_exchange_X0_constantOf : GoodIn wsX0_exchange wsX0_constantOf := goodIn_r _ [5, 6, 7, 8, 9, 4, 10, 11, 17, 18, 19, 20, 21, 22, 23] (by decide +kernel) (by decide +kernel)
set_option maxRecDepth 20000 in
theorem gX0_exchange_X0_constantOf : GoodIn wsX0_exchange (wsV RX0 40 RX0 yX0_constantOf wsX0_constantOf) := goodIn_app (goodIn_of _ (by decide +kernel)) ggX0_exchange_X0_constantOf
set_option maxRecDepth 20000 in
theorem ggX0_exchange_X0_giveCode : GoodIn wsX0_exchange wsX0_giveCode := goodIn_r _ [15, 6, 16, 7, 8, 9, 4, 10, 11, 17, 18, 19, 20, 21, 22, 23] (by decide +kernel) (by decide +kernel)
set_option maxRecDepth 20000 in
theorem gX0_exchange_X0_giveCode : GoodIn wsX0_exchange (wsV RX0 44 RX0 yX0_giveCode wsX0_giveCode) := goodIn_app (goodIn_of _ (by decide +kernel)) ggX0_exchange_X0_giveCode
theorem dX0_exchange_0 : decode cX0_exchange 0 = .ok (.aload_n 0, 1) := by decide +kernel
theorem dX0_exchange_1 : decode cX0_exchange 1 = .ok (.iload_n 1, 1) := by decide +kernel
theorem dX0_exchange_2 : decode cX0_exchange 2 = .ok (.invokevirtual 40, 3) := by decide +kernel
theorem dX0_exchange_5 : decode cX0_exchange 5 = .ok (.istore_n 3, 1) := by decide +kernel
theorem dX0_exchange_6 : decode cX0_exchange 6 = .ok (.aload_n 0, 1) := by decide +kernel
theorem dX0_exchange_7 : decode cX0_exchange 7 = .ok (.iload_n 2, 1) := by decide +kernel
theorem dX0_exchange_8 : decode cX0_exchange 8 = .ok (.invokevirtual 40, 3) := by decide +kernel
theorem dX0_exchange_11 : decode cX0_exchange 11 = .ok (.istore 4, 2) := by decide +kernel
theorem dX0_exchange_13 : decode cX0_exchange 13 = .ok (.aload_n 0, 1) := by decide +kernel
theorem dX0_exchange_14 : decode cX0_exchange 14 = .ok (.iload_n 3, 1) := by decide +kernel
theorem dX0_exchange_15 : decode cX0_exchange 15 = .ok (.iload_n 2, 1) := by decide +kernel
theorem dX0_exchange_16 : decode cX0_exchange 16 = .ok (.invokevirtual 44, 3) := by decide +kernel
theorem dX0_exchange_19 : decode cX0_exchange 19 = .ok (.aload_n 0, 1) := by decide +kernel
theorem dX0_exchange_20 : decode cX0_exchange 20 = .ok (.iload 4, 2) := by decide +kernel
theorem dX0_exchange_22 : decode cX0_exchange 22 = .ok (.iload_n 1, 1) := by decide +kernel
theorem dX0_exchange_23 : decode cX0_exchange 23 = .ok (.invokevirtual 44, 3) := by decide +kernel
theorem dX0_exchange_26 : decode cX0_exchange 26 = .ok (.return_, 1) := by decide +kernel
theorem dX0_startForRule_0 : decode cX0_startForRule 0 = .ok (.aload_n 0, 1) := by decide +kernel
theorem dX0_startForRule_1 : decode cX0_startForRule 1 = .ok (.getfield 9, 3) := by decide +kernel
theorem dX0_startForRule_4 : decode cX0_startForRule 4 = .ok (.iconst 2, 1) := by decide +kernel
theorem dX0_startForRule_5 : decode cX0_startForRule 5 = .ok (.if_icmp .ne 6, 3) := by decide +kernel
theorem dX0_startForRule_8 : decode cX0_startForRule 8 = .ok (.bipush (-9), 2) := by decide +kernel
theorem dX0_startForRule_10 : decode cX0_startForRule 10 = .ok (.ireturn, 1) := by decide +kernel
theorem dX0_startForRule_11 : decode cX0_startForRule 11 = .ok (.aload_n 0, 1) := by decide +kernel
theorem dX0_startForRule_12 : decode cX0_startForRule 12 = .ok (.getfield 9, 3) := by decide +kernel
theorem dX0_startForRule_15 : decode cX0_startForRule 15 = .ok (.ifCond .ne 18, 3) := by decide +kernel
theorem dX0_startForRule_18 : decode cX0_startForRule 18 = .ok (.aload_n 0, 1) := by decide +kernel
theorem dX0_startForRule_19 : decode cX0_startForRule 19 = .ok (.getfield 15, 3) := by decide +kernel
theorem dX0_startForRule_22 : decode cX0_startForRule 22 = .ok (.ifCond .eq 11, 3) := by decide +kernel
theorem dX0_startForRule_25 : decode cX0_startForRule 25 = .ok (.aload_n 0, 1) := by decide +kernel
theorem dX0_startForRule_26 : decode cX0_startForRule 26 = .ok (.iconst 2, 1) := by decide +kernel
theorem dX0_startForRule_27 : decode cX0_startForRule 27 = .ok (.putfield 9, 3) := by decide +kernel
theorem dX0_startForRule_30 : decode cX0_startForRule 30 = .ok (.bipush (-8), 2) := by decide +kernel
theorem dX0_startForRule_32 : decode cX0_startForRule 32 = .ok (.ireturn, 1) := by decide +kernel
theorem dX0_startForRule_33 : decode cX0_startForRule 33 = .ok (.aload_n 0, 1) := by decide +kernel
theorem dX0_startForRule_34 : decode cX0_startForRule 34 = .ok (.iconst 1, 1) := by decide +kernel
theorem dX0_startForRule_35 : decode cX0_startForRule 35 = .ok (.putfield 9, 3) := by decide +kernel
theorem dX0_startForRule_38 : decode cX0_startForRule 38 = .ok (.iconst 1, 1) := by decide +kernel
theorem dX0_startForRule_39 : decode cX0_startForRule 39 = .ok (.ireturn, 1) := by decide +kernel
set_option maxRecDepth 20000 in
theorem ggX1_size_J6_bitCount_0f7a4 : GoodIn wsX1_size wsJ6_bitCount_0f7a4 := goodIn_r _ [5, 6, 7, 8] (by decide +kernel) (by decide +kernel)
set_option maxRecDepth 20000 in
theorem gX1_size_J6_bitCount_0f7a4 : GoodIn wsX1_size (va_wsS RX1 17 yJ6_bitCount_0f7a4 wsJ6_bitCount_0f7a4) := goodIn_app (goodIn_of _ (by decide +kernel)) ggX1_size_J6_bitCount_0f7a4
theorem dX1_size_0 : decode cX1_size 0 = .ok (.aload_n 0, 1) := by decide +kernel
theorem dX1_size_1 : decode cX1_size 1 = .ok (.getfield 7, 3) := by decide +kernel
theorem dX1_size_4 : decode cX1_size 4 = .ok (.invokestatic 17, 3) := by decide +kernel
theorem dX1_size_7 : decode cX1_size 7 = .ok (.ireturn, 1) := by decide +kernel
set_option maxRecDepth 20000 in
theorem ggX1_holds_X0_has : GoodIn wsX1_holds wsX0_has := goodIn_r _ [6, 7, 10, 11, 12, 13, 14, 15, 16] (by decide +kernel) (by decide +kernel)
set_option maxRecDepth 20000 in
theorem gX1_holds_X0_has_n23 : GoodIn wsX1_holds (wsX0_has) := ggX1_holds_X0_has
theorem dX1_holds_0 : decode cX1_holds 0 = .ok (.aload_n 0, 1) := by decide +kernel
theorem dX1_holds_1 : decode cX1_holds 1 = .ok (.getfield 13, 3) := by decide +kernel
theorem dX1_holds_4 : decode cX1_holds 4 = .ok (.iload_n 1, 1) := by decide +kernel
theorem dX1_holds_5 : decode cX1_holds 5 = .ok (.invokevirtual 23, 3) := by decide +kernel
theorem dX1_holds_8 : decode cX1_holds 8 = .ok (.ifCond .eq 19, 3) := by decide +kernel
theorem dX1_holds_11 : decode cX1_holds 11 = .ok (.aload_n 0, 1) := by decide +kernel
theorem dX1_holds_12 : decode cX1_holds 12 = .ok (.getfield 7, 3) := by decide +kernel
theorem dX1_holds_15 : decode cX1_holds 15 = .ok (.iload_n 1, 1) := by decide +kernel
theorem dX1_holds_16 : decode cX1_holds 16 = .ok (.ishr, 1) := by decide +kernel
theorem dX1_holds_17 : decode cX1_holds 17 = .ok (.iconst 1, 1) := by decide +kernel
theorem dX1_holds_18 : decode cX1_holds 18 = .ok (.iand, 1) := by decide +kernel
theorem dX1_holds_19 : decode cX1_holds 19 = .ok (.iconst 1, 1) := by decide +kernel
theorem dX1_holds_20 : decode cX1_holds 20 = .ok (.if_icmp .ne 7, 3) := by decide +kernel
theorem dX1_holds_23 : decode cX1_holds 23 = .ok (.iconst 1, 1) := by decide +kernel
theorem dX1_holds_24 : decode cX1_holds 24 = .ok (.goto 4, 3) := by decide +kernel
theorem dX1_holds_27 : decode cX1_holds 27 = .ok (.iconst 0, 1) := by decide +kernel
theorem dX1_holds_28 : decode cX1_holds 28 = .ok (.ireturn, 1) := by decide +kernel
theorem dX1_become_0 : decode cX1_become 0 = .ok (.aload_n 0, 1) := by decide +kernel
theorem dX1_become_1 : decode cX1_become 1 = .ok (.aload_n 1, 1) := by decide +kernel
theorem dX1_become_2 : decode cX1_become 2 = .ok (.putfield 13, 3) := by decide +kernel
theorem dX1_become_5 : decode cX1_become 5 = .ok (.aload_n 0, 1) := by decide +kernel
theorem dX1_become_6 : decode cX1_become 6 = .ok (.iload_n 2, 1) := by decide +kernel
theorem dX1_become_7 : decode cX1_become 7 = .ok (.putfield 7, 3) := by decide +kernel
theorem dX1_become_10 : decode cX1_become 10 = .ok (.return_, 1) := by decide +kernel
theorem dX2_hasRecord_0 : decode cX2_hasRecord 0 = .ok (.iload_n 1, 1) := by decide +kernel
theorem dX2_hasRecord_1 : decode cX2_hasRecord 1 = .ok (.ifCond .lt 15, 3) := by decide +kernel
theorem dX2_hasRecord_4 : decode cX2_hasRecord 4 = .ok (.iload_n 1, 1) := by decide +kernel
theorem dX2_hasRecord_5 : decode cX2_hasRecord 5 = .ok (.aload_n 0, 1) := by decide +kernel
theorem dX2_hasRecord_6 : decode cX2_hasRecord 6 = .ok (.getfield 9, 3) := by decide +kernel
theorem dX2_hasRecord_9 : decode cX2_hasRecord 9 = .ok (.if_icmp .ge 7, 3) := by decide +kernel
theorem dX2_hasRecord_12 : decode cX2_hasRecord 12 = .ok (.iconst 1, 1) := by decide +kernel
theorem dX2_hasRecord_13 : decode cX2_hasRecord 13 = .ok (.goto 4, 3) := by decide +kernel
theorem dX2_hasRecord_16 : decode cX2_hasRecord 16 = .ok (.iconst 0, 1) := by decide +kernel
theorem dX2_hasRecord_17 : decode cX2_hasRecord 17 = .ok (.ireturn, 1) := by decide +kernel
theorem dX2_hasItem_0 : decode cX2_hasItem 0 = .ok (.iload_n 1, 1) := by decide +kernel
theorem dX2_hasItem_1 : decode cX2_hasItem 1 = .ok (.ifCond .lt 15, 3) := by decide +kernel
theorem dX2_hasItem_4 : decode cX2_hasItem 4 = .ok (.iload_n 1, 1) := by decide +kernel
theorem dX2_hasItem_5 : decode cX2_hasItem 5 = .ok (.aload_n 0, 1) := by decide +kernel
theorem dX2_hasItem_6 : decode cX2_hasItem 6 = .ok (.getfield 19, 3) := by decide +kernel
theorem dX2_hasItem_9 : decode cX2_hasItem 9 = .ok (.if_icmp .ge 7, 3) := by decide +kernel
theorem dX2_hasItem_12 : decode cX2_hasItem 12 = .ok (.iconst 1, 1) := by decide +kernel
theorem dX2_hasItem_13 : decode cX2_hasItem 13 = .ok (.goto 4, 3) := by decide +kernel
theorem dX2_hasItem_16 : decode cX2_hasItem 16 = .ok (.iconst 0, 1) := by decide +kernel
theorem dX2_hasItem_17 : decode cX2_hasItem 17 = .ok (.ireturn, 1) := by decide +kernel
