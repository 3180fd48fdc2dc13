set_option maxRecDepth 20000 in
theorem ggX3_draftOf_X2_hasRecord : GoodIn wsX3_draftOf wsX2_hasRecord := goodIn_r _ [5, 6, 7, 8, 9, 10, 11] (by decide +kernel) (by decide +kernel)
set_option maxRecDepth 20000 in
theorem gX3_draftOf_X2_hasRecord_n178 : GoodIn wsX3_draftOf (wsX2_hasRecord) := ggX3_draftOf_X2_hasRecord
theorem dX3_draftOf_0 : decode cX3_draftOf 0 = .ok (.aload_n 1, 1) := by decide +kernel
theorem dX3_draftOf_1 : decode cX3_draftOf 1 = .ok (.iload_n 2, 1) := by decide +kernel
theorem dX3_draftOf_2 : decode cX3_draftOf 2 = .ok (.invokevirtual 178, 3) := by decide +kernel
theorem dX3_draftOf_5 : decode cX3_draftOf 5 = .ok (.ifCond .ne 4, 3) := by decide +kernel
theorem dX3_draftOf_8 : decode cX3_draftOf 8 = .ok (.return_, 1) := by decide +kernel
theorem dX3_draftOf_9 : decode cX3_draftOf 9 = .ok (.iconst 0, 1) := by decide +kernel
theorem dX3_draftOf_10 : decode cX3_draftOf 10 = .ok (.istore_n 3, 1) := by decide +kernel
theorem dX3_draftOf_11 : decode cX3_draftOf 11 = .ok (.iload_n 3, 1) := by decide +kernel
theorem dX3_draftOf_12 : decode cX3_draftOf 12 = .ok (.aload_n 1, 1) := by decide +kernel
theorem dX3_draftOf_13 : decode cX3_draftOf 13 = .ok (.getfield 171, 3) := by decide +kernel
theorem dX3_draftOf_16 : decode cX3_draftOf 16 = .ok (.if_icmp .ge 23, 3) := by decide +kernel
theorem dX3_draftOf_19 : decode cX3_draftOf 19 = .ok (.aload_n 0, 1) := by decide +kernel
theorem dX3_draftOf_20 : decode cX3_draftOf 20 = .ok (.getfield 63, 3) := by decide +kernel
theorem dX3_draftOf_23 : decode cX3_draftOf 23 = .ok (.iload_n 3, 1) := by decide +kernel
theorem dX3_draftOf_24 : decode cX3_draftOf 24 = .ok (.aload_n 1, 1) := by decide +kernel
theorem dX3_draftOf_25 : decode cX3_draftOf 25 = .ok (.getfield 174, 3) := by decide +kernel
theorem dX3_draftOf_28 : decode cX3_draftOf 28 = .ok (.iload_n 3, 1) := by decide +kernel
theorem dX3_draftOf_29 : decode cX3_draftOf 29 = .ok (.aaload, 1) := by decide +kernel
theorem dX3_draftOf_30 : decode cX3_draftOf 30 = .ok (.iload_n 2, 1) := by decide +kernel
theorem dX3_draftOf_31 : decode cX3_draftOf 31 = .ok (.iaload, 1) := by decide +kernel
theorem dX3_draftOf_32 : decode cX3_draftOf 32 = .ok (.iastore, 1) := by decide +kernel
theorem dX3_draftOf_33 : decode cX3_draftOf 33 = .ok (.iinc 3 1, 3) := by decide +kernel
theorem dX3_draftOf_36 : decode cX3_draftOf 36 = .ok (.goto (-25), 3) := by decide +kernel
theorem dX3_draftOf_39 : decode cX3_draftOf 39 = .ok (.return_, 1) := by decide +kernel
set_option maxRecDepth 20000 in
theorem ggX3_putTogether_X3_wrongItem : GoodIn wsX3_putTogether wsX3_wrongItem := goodIn_r _ [9, 3, 10, 11, 12, 13, 8, 14, 15, 16, 17, 18, 19, 20, 21, 22, 23, 24, 39, 40, 41, 42, 43, 25, 26, 27, 28, 29, 30, 31, 32, 33, 34, 35, 36, 37, 38, 44, 45, 46, 47, 48, 49, 50] (by decide +kernel) (by decide +kernel)
set_option maxRecDepth 20000 in
theorem gX3_putTogether_X3_wrongItem : GoodIn wsX3_putTogether (wsV RX3 193 RX3 yX3_wrongItem wsX3_wrongItem) := goodIn_app (goodIn_of _ (by decide +kernel)) ggX3_putTogether_X3_wrongItem
theorem dX3_putTogether_0 : decode cX3_putTogether 0 = .ok (.aload_n 0, 1) := by decide +kernel
theorem dX3_putTogether_1 : decode cX3_putTogether 1 = .ok (.aload_n 1, 1) := by decide +kernel
theorem dX3_putTogether_2 : decode cX3_putTogether 2 = .ok (.invokevirtual 193, 3) := by decide +kernel
theorem dX3_putTogether_5 : decode cX3_putTogether 5 = .ok (.istore_n 2, 1) := by decide +kernel
theorem dX3_putTogether_6 : decode cX3_putTogether 6 = .ok (.iload_n 2, 1) := by decide +kernel
theorem dX3_putTogether_7 : decode cX3_putTogether 7 = .ok (.iconst (-1), 1) := by decide +kernel
theorem dX3_putTogether_8 : decode cX3_putTogether 8 = .ok (.if_icmp .eq 18, 3) := by decide +kernel
theorem dX3_putTogether_11 : decode cX3_putTogether 11 = .ok (.aload_n 0, 1) := by decide +kernel
theorem dX3_putTogether_12 : decode cX3_putTogether 12 = .ok (.dup, 1) := by decide +kernel
theorem dX3_putTogether_13 : decode cX3_putTogether 13 = .ok (.getfield 60, 3) := by decide +kernel
theorem dX3_putTogether_16 : decode cX3_putTogether 16 = .ok (.iconst 1, 1) := by decide +kernel
theorem dX3_putTogether_17 : decode cX3_putTogether 17 = .ok (.iadd, 1) := by decide +kernel
theorem dX3_putTogether_18 : decode cX3_putTogether 18 = .ok (.putfield 60, 3) := by decide +kernel
theorem dX3_putTogether_21 : decode cX3_putTogether 21 = .ok (.bipush (-10), 2) := by decide +kernel
theorem dX3_putTogether_23 : decode cX3_putTogether 23 = .ok (.iload_n 2, 1) := by decide +kernel
theorem dX3_putTogether_24 : decode cX3_putTogether 24 = .ok (.isub, 1) := by decide +kernel
theorem dX3_putTogether_25 : decode cX3_putTogether 25 = .ok (.ireturn, 1) := by decide +kernel
theorem dX3_putTogether_26 : decode cX3_putTogether 26 = .ok (.iconst 0, 1) := by decide +kernel
theorem dX3_putTogether_27 : decode cX3_putTogether 27 = .ok (.istore_n 3, 1) := by decide +kernel
theorem dX3_putTogether_28 : decode cX3_putTogether 28 = .ok (.iload_n 3, 1) := by decide +kernel
theorem dX3_putTogether_29 : decode cX3_putTogether 29 = .ok (.aload_n 1, 1) := by decide +kernel
theorem dX3_putTogether_30 : decode cX3_putTogether 30 = .ok (.getfield 171, 3) := by decide +kernel
theorem dX3_putTogether_33 : decode cX3_putTogether 33 = .ok (.if_icmp .ge 21, 3) := by decide +kernel
theorem dX3_putTogether_36 : decode cX3_putTogether 36 = .ok (.aload_n 0, 1) := by decide +kernel
theorem dX3_putTogether_37 : decode cX3_putTogether 37 = .ok (.getfield 67, 3) := by decide +kernel
theorem dX3_putTogether_40 : decode cX3_putTogether 40 = .ok (.iload_n 3, 1) := by decide +kernel
theorem dX3_putTogether_41 : decode cX3_putTogether 41 = .ok (.aload_n 0, 1) := by decide +kernel
theorem dX3_putTogether_42 : decode cX3_putTogether 42 = .ok (.getfield 63, 3) := by decide +kernel
theorem dX3_putTogether_45 : decode cX3_putTogether 45 = .ok (.iload_n 3, 1) := by decide +kernel
theorem dX3_putTogether_46 : decode cX3_putTogether 46 = .ok (.iaload, 1) := by decide +kernel
theorem dX3_putTogether_47 : decode cX3_putTogether 47 = .ok (.iastore, 1) := by decide +kernel
theorem dX3_putTogether_48 : decode cX3_putTogether 48 = .ok (.iinc 3 1, 3) := by decide +kernel
theorem dX3_putTogether_51 : decode cX3_putTogether 51 = .ok (.goto (-23), 3) := by decide +kernel
theorem dX3_putTogether_54 : decode cX3_putTogether 54 = .ok (.aload_n 0, 1) := by decide +kernel
theorem dX3_putTogether_55 : decode cX3_putTogether 55 = .ok (.aload_n 1, 1) := by decide +kernel
theorem dX3_putTogether_56 : decode cX3_putTogether 56 = .ok (.putfield 70, 3) := by decide +kernel
theorem dX3_putTogether_59 : decode cX3_putTogether 59 = .ok (.iconst 1, 1) := by decide +kernel
theorem dX3_putTogether_60 : decode cX3_putTogether 60 = .ok (.ireturn, 1) := by decide +kernel
