set_option maxRecDepth 20000 in
theorem gX8_fewest_X8_isColumn : GoodIn wsX8_fewest (wsV RX8 198 RX8 yX8_isColumn wsX8_isColumn) := goodIn_app (goodIn_of _ (by decide +kernel)) ggX8_fewest_X8_isColumn
set_option maxRecDepth 20000 in
theorem ggX8_fewest_X8_isKind : GoodIn wsX8_fewest wsX8_isKind := goodIn_r _ [15, 16, 9, 10, 6, 11, 64, 65, 66, 67, 68, 69, 70, 71, 72, 73, 74, 75, 76, 77, 78, 79, 80, 81, 82, 83, 84, 85, 86, 87, 88, 89, 90, 91, 92, 93, 94, 95, 96, 97, 98] (by decide +kernel) (by decide +kernel)
set_option maxRecDepth 20000 in
theorem gX8_fewest_X8_isKind : GoodIn wsX8_fewest (wsV RX8 189 RX8 yX8_isKind wsX8_isKind) := goodIn_app (goodIn_of _ (by decide +kernel)) ggX8_fewest_X8_isKind
set_option maxRecDepth 20000 in
theorem ggX8_fewest_X8_codes : GoodIn wsX8_fewest wsX8_codes := goodIn_r _ [20, 16, 64, 65, 66, 67, 68, 69, 70, 71, 72, 73, 74, 75, 76, 77, 78, 79, 80, 81, 82, 83, 84, 85, 86, 87, 88, 89, 90, 91, 92, 93, 94, 95, 96, 97, 98] (by decide +kernel) (by decide +kernel)
set_option maxRecDepth 20000 in
theorem gX8_fewest_X8_codes : GoodIn wsX8_fewest (wsV RX8 254 RX8 yX8_codes wsX8_codes) := goodIn_app (goodIn_of _ (by decide +kernel)) ggX8_fewest_X8_codes
set_option maxRecDepth 20000 in
theorem ggX8_fewest_X8_layRow : GoodIn wsX8_fewest wsX8_layRow := goodIn_r _ [24, 16, 2, 64, 65, 66, 67, 68, 69, 70, 71, 72, 73, 74, 75, 76, 77, 78, 79, 80, 81, 82, 83, 84, 85, 86, 87, 88, 89, 90, 91, 92, 93, 94, 95, 96, 97, 98] (by decide +kernel) (by decide +kernel)
set_option maxRecDepth 20000 in
theorem gX8_fewest_X8_layRow : GoodIn wsX8_fewest (wsV RX8 257 RX8 yX8_layRow wsX8_layRow) := goodIn_app (goodIn_of _ (by decide +kernel)) ggX8_fewest_X8_layRow
set_option maxRecDepth 20000 in
theorem ggX8_fewest_X8_in : GoodIn wsX8_fewest wsX8_in := goodIn_r _ [11] (by decide +kernel) (by decide +kernel)
set_option maxRecDepth 20000 in
theorem gX8_fewest_X8_in : GoodIn wsX8_fewest (va_wsS RX8 77 yX8_in wsX8_in) := goodIn_app (goodIn_of _ (by decide +kernel)) ggX8_fewest_X8_in
set_option maxRecDepth 20000 in
theorem ggX8_fewest_X8_gets : GoodIn wsX8_fewest wsX8_gets := goodIn_r _ [28, 16, 2, 29, 30, 31, 32, 33, 6, 34, 35, 36, 37, 38, 39, 40, 41, 42, 43, 9, 10, 11, 44, 45, 46, 47, 48, 49, 50, 51, 52, 53, 54, 55, 56, 57, 58, 59, 60, 61, 62, 63, 64, 65, 66, 67, 68, 69, 70, 71, 72, 73, 74, 75, 76, 77, 78, 79, 80, 81, 82, 83, 84, 85, 86, 87, 88, 89, 90, 91, 92, 93, 94, 95, 96, 97, 98] (by decide +kernel) (by decide +kernel)
set_option maxRecDepth 20000 in
theorem gX8_fewest_X8_gets : GoodIn wsX8_fewest (wsV RX8 260 RX8 yX8_gets wsX8_gets) := goodIn_app (goodIn_of _ (by decide +kernel)) ggX8_fewest_X8_gets
theorem dX8_fewest_0 : decode cX8_fewest 0 = .ok (.aload_n 0, 1) := by decide +kernel
theorem dX8_fewest_1 : decode cX8_fewest 1 = .ok (.iload_n 1, 1) := by decide +kernel
theorem dX8_fewest_2 : decode cX8_fewest 2 = .ok (.invokevirtual 198, 3) := by decide +kernel
theorem dX8_fewest_5 : decode cX8_fewest 5 = .ok (.ifCond .eq 16, 3) := by decide +kernel
theorem dX8_fewest_8 : decode cX8_fewest 8 = .ok (.iload_n 2, 1) := by decide +kernel
theorem dX8_fewest_9 : decode cX8_fewest 9 = .ok (.iconst (-1), 1) := by decide +kernel
theorem dX8_fewest_10 : decode cX8_fewest 10 = .ok (.if_icmp .eq 14, 3) := by decide +kernel
theorem dX8_fewest_13 : decode cX8_fewest 13 = .ok (.aload_n 0, 1) := by decide +kernel
theorem dX8_fewest_14 : decode cX8_fewest 14 = .ok (.iload_n 2, 1) := by decide +kernel
theorem dX8_fewest_15 : decode cX8_fewest 15 = .ok (.invokevirtual 189, 3) := by decide +kernel
theorem dX8_fewest_18 : decode cX8_fewest 18 = .ok (.ifCond .ne 6, 3) := by decide +kernel
theorem dX8_fewest_21 : decode cX8_fewest 21 = .ok (.ldc 193, 2) := by decide +kernel
theorem dX8_fewest_23 : decode cX8_fewest 23 = .ok (.ireturn, 1) := by decide +kernel
theorem dX8_fewest_24 : decode cX8_fewest 24 = .ok (.iconst (-1), 1) := by decide +kernel
theorem dX8_fewest_25 : decode cX8_fewest 25 = .ok (.istore_n 3, 1) := by decide +kernel
theorem dX8_fewest_26 : decode cX8_fewest 26 = .ok (.bipush 9, 2) := by decide +kernel
theorem dX8_fewest_28 : decode cX8_fewest 28 = .ok (.istore 4, 2) := by decide +kernel
theorem dX8_fewest_30 : decode cX8_fewest 30 = .ok (.iconst 0, 1) := by decide +kernel
theorem dX8_fewest_31 : decode cX8_fewest 31 = .ok (.istore 5, 2) := by decide +kernel
theorem dX8_fewest_33 : decode cX8_fewest 33 = .ok (.iload 5, 2) := by decide +kernel
theorem dX8_fewest_35 : decode cX8_fewest 35 = .ok (.aload_n 0, 1) := by decide +kernel
theorem dX8_fewest_36 : decode cX8_fewest 36 = .ok (.invokevirtual 254, 3) := by decide +kernel
theorem dX8_fewest_39 : decode cX8_fewest 39 = .ok (.if_icmp .ge 47, 3) := by decide +kernel
theorem dX8_fewest_42 : decode cX8_fewest 42 = .ok (.aload_n 0, 1) := by decide +kernel
theorem dX8_fewest_43 : decode cX8_fewest 43 = .ok (.iload 5, 2) := by decide +kernel
theorem dX8_fewest_45 : decode cX8_fewest 45 = .ok (.invokevirtual 257, 3) := by decide +kernel
theorem dX8_fewest_48 : decode cX8_fewest 48 = .ok (.istore 6, 2) := by decide +kernel
theorem dX8_fewest_50 : decode cX8_fewest 50 = .ok (.iload 6, 2) := by decide +kernel
theorem dX8_fewest_52 : decode cX8_fewest 52 = .ok (.i2l, 1) := by decide +kernel
theorem dX8_fewest_53 : decode cX8_fewest 53 = .ok (.lconst 1, 1) := by decide +kernel
theorem dX8_fewest_54 : decode cX8_fewest 54 = .ok (.iload 4, 2) := by decide +kernel
theorem dX8_fewest_56 : decode cX8_fewest 56 = .ok (.iconst 1, 1) := by decide +kernel
theorem dX8_fewest_57 : decode cX8_fewest 57 = .ok (.isub, 1) := by decide +kernel
theorem dX8_fewest_58 : decode cX8_fewest 58 = .ok (.i2l, 1) := by decide +kernel
theorem dX8_fewest_59 : decode cX8_fewest 59 = .ok (.invokestatic 77, 3) := by decide +kernel
theorem dX8_fewest_62 : decode cX8_fewest 62 = .ok (.ifCond .eq 18, 3) := by decide +kernel
theorem dX8_fewest_65 : decode cX8_fewest 65 = .ok (.aload_n 0, 1) := by decide +kernel
theorem dX8_fewest_66 : decode cX8_fewest 66 = .ok (.iload_n 1, 1) := by decide +kernel
theorem dX8_fewest_67 : decode cX8_fewest 67 = .ok (.invokevirtual 260, 3) := by decide +kernel
theorem dX8_fewest_70 : decode cX8_fewest 70 = .ok (.ifCond .eq 10, 3) := by decide +kernel
theorem dX8_fewest_73 : decode cX8_fewest 73 = .ok (.iload 5, 2) := by decide +kernel
theorem dX8_fewest_75 : decode cX8_fewest 75 = .ok (.istore_n 3, 1) := by decide +kernel
theorem dX8_fewest_76 : decode cX8_fewest 76 = .ok (.iload 6, 2) := by decide +kernel
theorem dX8_fewest_78 : decode cX8_fewest 78 = .ok (.istore 4, 2) := by decide +kernel
theorem dX8_fewest_80 : decode cX8_fewest 80 = .ok (.iinc 5 1, 3) := by decide +kernel
theorem dX8_fewest_83 : decode cX8_fewest 83 = .ok (.goto (-50), 3) := by decide +kernel
theorem dX8_fewest_86 : decode cX8_fewest 86 = .ok (.iload_n 3, 1) := by decide +kernel
theorem dX8_fewest_87 : decode cX8_fewest 87 = .ok (.ifCond .ge 5, 3) := by decide +kernel
theorem dX8_fewest_90 : decode cX8_fewest 90 = .ok (.iconst (-1), 1) := by decide +kernel
theorem dX8_fewest_91 : decode cX8_fewest 91 = .ok (.ireturn, 1) := by decide +kernel
theorem dX8_fewest_92 : decode cX8_fewest 92 = .ok (.aload_n 0, 1) := by decide +kernel
theorem dX8_fewest_93 : decode cX8_fewest 93 = .ok (.iload_n 3, 1) := by decide +kernel
theorem dX8_fewest_94 : decode cX8_fewest 94 = .ok (.invokevirtual 257, 3) := by decide +kernel
theorem dX8_fewest_97 : decode cX8_fewest 97 = .ok (.istore 4, 2) := by decide +kernel
theorem dX8_fewest_99 : decode cX8_fewest 99 = .ok (.iload_n 2, 1) := by decide +kernel
theorem dX8_fewest_100 : decode cX8_fewest 100 = .ok (.ifCond .ge 8, 3) := by decide +kernel
theorem dX8_fewest_103 : decode cX8_fewest 103 = .ok (.iload 4, 2) := by decide +kernel
theorem dX8_fewest_105 : decode cX8_fewest 105 = .ok (.goto 9, 3) := by decide +kernel
theorem dX8_fewest_108 : decode cX8_fewest 108 = .ok (.aload_n 0, 1) := by decide +kernel
theorem dX8_fewest_109 : decode cX8_fewest 109 = .ok (.getfield 54, 3) := by decide +kernel
theorem dX8_fewest_112 : decode cX8_fewest 112 = .ok (.iload_n 2, 1) := by decide +kernel
theorem dX8_fewest_113 : decode cX8_fewest 113 = .ok (.iaload, 1) := by decide +kernel
theorem dX8_fewest_114 : decode cX8_fewest 114 = .ok (.ireturn, 1) := by decide +kernel
set_option maxRecDepth 20000 in
theorem ggX8_buyer_X8_isColumn : GoodIn wsX8_buyer wsX8_isColumn := goodIn_r _ [13, 14, 15, 16, 12, 17, 23, 24, 25, 26, 27, 28, 29, 30, 31, 32, 33, 34, 35, 36, 37, 38, 39, 40, 41, 42, 43, 44, 45, 46, 47, 48, 49, 50, 51, 52, 53, 54, 55, 56, 57] (by decide +kernel) (by decide +kernel)
set_option maxRecDepth 20000 in
theorem gX8_buyer_X8_isColumn : GoodIn wsX8_buyer (wsV RX8 198 RX8 yX8_isColumn wsX8_isColumn) := goodIn_app (goodIn_of _ (by decide +kernel)) ggX8_buyer_X8_isColumn
set_option maxRecDepth 20000 in
theorem ggX8_buyer_X8_isKind : GoodIn wsX8_buyer wsX8_isKind := goodIn_r _ [21, 22, 15, 16, 12, 17, 23, 24, 25, 26, 27, 28, 29, 30, 31, 32, 33, 34, 35, 36, 37, 38, 39, 40, 41, 42, 43, 44, 45, 46, 47, 48, 49, 50, 51, 52, 53, 54, 55, 56, 57] (by decide +kernel) (by decide +kernel)
set_option maxRecDepth 20000 in
theorem gX8_buyer_X8_isKind : GoodIn wsX8_buyer (wsV RX8 189 RX8 yX8_isKind wsX8_isKind) := goodIn_app (goodIn_of _ (by decide +kernel)) ggX8_buyer_X8_isKind
set_option maxRecDepth 20000 in
theorem ggX8_buyer_X8_in : GoodIn wsX8_buyer wsX8_in := goodIn_r _ [17] (by decide +kernel) (by decide +kernel)
set_option maxRecDepth 20000 in
theorem gX8_buyer_X8_in : GoodIn wsX8_buyer (va_wsS RX8 77 yX8_in wsX8_in) := goodIn_app (goodIn_of _ (by decide +kernel)) ggX8_buyer_X8_in
theorem dX8_buyer_0 : decode cX8_buyer 0 = .ok (.aload_n 0, 1) := by decide +kernel
theorem dX8_buyer_1 : decode cX8_buyer 1 = .ok (.iload_n 1, 1) := by decide +kernel
theorem dX8_buyer_2 : decode cX8_buyer 2 = .ok (.invokevirtual 198, 3) := by decide +kernel
theorem dX8_buyer_5 : decode cX8_buyer 5 = .ok (.ifCond .eq 11, 3) := by decide +kernel
theorem dX8_buyer_8 : decode cX8_buyer 8 = .ok (.aload_n 0, 1) := by decide +kernel
theorem dX8_buyer_9 : decode cX8_buyer 9 = .ok (.iload_n 2, 1) := by decide +kernel
theorem dX8_buyer_10 : decode cX8_buyer 10 = .ok (.invokevirtual 189, 3) := by decide +kernel
theorem dX8_buyer_13 : decode cX8_buyer 13 = .ok (.ifCond .ne 6, 3) := by decide +kernel
theorem dX8_buyer_16 : decode cX8_buyer 16 = .ok (.ldc 193, 2) := by decide +kernel
theorem dX8_buyer_18 : decode cX8_buyer 18 = .ok (.ireturn, 1) := by decide +kernel
theorem dX8_buyer_19 : decode cX8_buyer 19 = .ok (.iload_n 3, 1) := by decide +kernel
theorem dX8_buyer_20 : decode cX8_buyer 20 = .ok (.i2l, 1) := by decide +kernel
theorem dX8_buyer_21 : decode cX8_buyer 21 = .ok (.lconst 1, 1) := by decide +kernel
theorem dX8_buyer_22 : decode cX8_buyer 22 = .ok (.ldc2_w 222, 3) := by decide +kernel
theorem dX8_buyer_25 : decode cX8_buyer 25 = .ok (.invokestatic 77, 3) := by decide +kernel
theorem dX8_buyer_28 : decode cX8_buyer 28 = .ok (.ifCond .ne 6, 3) := by decide +kernel
theorem dX8_buyer_31 : decode cX8_buyer 31 = .ok (.ldc 81, 2) := by decide +kernel
theorem dX8_buyer_33 : decode cX8_buyer 33 = .ok (.ireturn, 1) := by decide +kernel
theorem dX8_buyer_34 : decode cX8_buyer 34 = .ok (.aload_n 0, 1) := by decide +kernel
theorem dX8_buyer_35 : decode cX8_buyer 35 = .ok (.getfield 173, 3) := by decide +kernel
theorem dX8_buyer_38 : decode cX8_buyer 38 = .ok (.bipush 8, 2) := by decide +kernel
theorem dX8_buyer_40 : decode cX8_buyer 40 = .ok (.if_icmp .ne 6, 3) := by decide +kernel
theorem dX8_buyer_43 : decode cX8_buyer 43 = .ok (.ldc 85, 2) := by decide +kernel
theorem dX8_buyer_45 : decode cX8_buyer 45 = .ok (.ireturn, 1) := by decide +kernel
theorem dX8_buyer_46 : decode cX8_buyer 46 = .ok (.aload_n 0, 1) := by decide +kernel
theorem dX8_buyer_47 : decode cX8_buyer 47 = .ok (.getfield 57, 3) := by decide +kernel
theorem dX8_buyer_50 : decode cX8_buyer 50 = .ok (.aload_n 0, 1) := by decide +kernel
theorem dX8_buyer_51 : decode cX8_buyer 51 = .ok (.getfield 173, 3) := by decide +kernel
theorem dX8_buyer_54 : decode cX8_buyer 54 = .ok (.iload_n 1, 1) := by decide +kernel
theorem dX8_buyer_55 : decode cX8_buyer 55 = .ok (.iastore, 1) := by decide +kernel
theorem dX8_buyer_56 : decode cX8_buyer 56 = .ok (.aload_n 0, 1) := by decide +kernel
theorem dX8_buyer_57 : decode cX8_buyer 57 = .ok (.getfield 60, 3) := by decide +kernel
theorem dX8_buyer_60 : decode cX8_buyer 60 = .ok (.aload_n 0, 1) := by decide +kernel
theorem dX8_buyer_61 : decode cX8_buyer 61 = .ok (.getfield 173, 3) := by decide +kernel
theorem dX8_buyer_64 : decode cX8_buyer 64 = .ok (.iload_n 2, 1) := by decide +kernel
theorem dX8_buyer_65 : decode cX8_buyer 65 = .ok (.iastore, 1) := by decide +kernel
theorem dX8_buyer_66 : decode cX8_buyer 66 = .ok (.aload_n 0, 1) := by decide +kernel
theorem dX8_buyer_67 : decode cX8_buyer 67 = .ok (.getfield 63, 3) := by decide +kernel
theorem dX8_buyer_70 : decode cX8_buyer 70 = .ok (.aload_n 0, 1) := by decide +kernel
theorem dX8_buyer_71 : decode cX8_buyer 71 = .ok (.getfield 173, 3) := by decide +kernel
theorem dX8_buyer_74 : decode cX8_buyer 74 = .ok (.iload_n 3, 1) := by decide +kernel
theorem dX8_buyer_75 : decode cX8_buyer 75 = .ok (.iastore, 1) := by decide +kernel
theorem dX8_buyer_76 : decode cX8_buyer 76 = .ok (.aload_n 0, 1) := by decide +kernel
theorem dX8_buyer_77 : decode cX8_buyer 77 = .ok (.dup, 1) := by decide +kernel
theorem dX8_buyer_78 : decode cX8_buyer 78 = .ok (.getfield 173, 3) := by decide +kernel
theorem dX8_buyer_81 : decode cX8_buyer 81 = .ok (.iconst 1, 1) := by decide +kernel
theorem dX8_buyer_82 : decode cX8_buyer 82 = .ok (.iadd, 1) := by decide +kernel
theorem dX8_buyer_83 : decode cX8_buyer 83 = .ok (.putfield 173, 3) := by decide +kernel
theorem dX8_buyer_86 : decode cX8_buyer 86 = .ok (.aload_n 0, 1) := by decide +kernel
theorem dX8_buyer_87 : decode cX8_buyer 87 = .ok (.getfield 173, 3) := by decide +kernel
theorem dX8_buyer_90 : decode cX8_buyer 90 = .ok (.ireturn, 1) := by decide +kernel
set_option maxRecDepth 20000 in
theorem ggX8_come_X8_has : GoodIn wsX8_come wsX8_has := goodIn_r _ [8] (by decide +kernel) (by decide +kernel)
set_option maxRecDepth 20000 in
theorem gX8_come_X8_has : GoodIn wsX8_come (va_wsS RX8 130 yX8_has wsX8_has) := goodIn_app (goodIn_of _ (by decide +kernel)) ggX8_come_X8_has
set_option maxRecDepth 20000 in
theorem ggX8_come_X8_canBuy : GoodIn wsX8_come wsX8_canBuy := goodIn_r _ [12, 13, 14, 15, 16, 17, 7, 18, 19, 20, 21, 22, 23, 24, 25, 26, 49, 50, 51, 52, 53, 54, 55, 56, 57, 58, 59, 60, 61, 62, 63, 64, 65, 66, 67, 68, 69, 70, 71, 72, 73, 74, 75, 76, 77, 78, 79, 80, 81, 82, 83] (by decide +kernel) (by decide +kernel)
set_option maxRecDepth 20000 in
theorem gX8_come_X8_canBuy : GoodIn wsX8_come (wsV RX8 224 RX8 yX8_canBuy wsX8_canBuy) := goodIn_app (goodIn_of _ (by decide +kernel)) ggX8_come_X8_canBuy
set_option maxRecDepth 20000 in
theorem ggX8_come_X8_sell : GoodIn wsX8_come wsX8_sell := goodIn_r _ [30, 13, 14, 31, 32, 33, 7, 34, 35, 36, 37, 38, 39, 40, 41, 42, 43, 44, 45, 46, 47, 48, 5, 6, 8, 49, 50, 51, 52, 53, 54, 55, 56, 57, 58, 59, 60, 61, 62, 63, 64, 65, 66, 67, 68, 69, 70, 71, 72, 73, 74, 75, 76, 77, 78, 79, 80, 81, 82, 83] (by decide +kernel) (by decide +kernel)
set_option maxRecDepth 20000 in
theorem gX8_come_X8_sell : GoodIn wsX8_come (wsV RX8 229 RX8 yX8_sell wsX8_sell) := goodIn_app (goodIn_of _ (by decide +kernel)) ggX8_come_X8_sell
theorem dX8_come_0 : decode cX8_come 0 = .ok (.iconst 0, 1) := by decide +kernel
theorem dX8_come_1 : decode cX8_come 1 = .ok (.istore_n 2, 1) := by decide +kernel
theorem dX8_come_2 : decode cX8_come 2 = .ok (.iconst 0, 1) := by decide +kernel
theorem dX8_come_3 : decode cX8_come 3 = .ok (.istore_n 3, 1) := by decide +kernel
theorem dX8_come_4 : decode cX8_come 4 = .ok (.iload_n 3, 1) := by decide +kernel
theorem dX8_come_5 : decode cX8_come 5 = .ok (.aload_n 0, 1) := by decide +kernel
theorem dX8_come_6 : decode cX8_come 6 = .ok (.getfield 173, 3) := by decide +kernel
theorem dX8_come_9 : decode cX8_come 9 = .ok (.if_icmp .ge 73, 3) := by decide +kernel
theorem dX8_come_12 : decode cX8_come 12 = .ok (.iload_n 1, 1) := by decide +kernel
theorem dX8_come_13 : decode cX8_come 13 = .ok (.iload_n 3, 1) := by decide +kernel
theorem dX8_come_14 : decode cX8_come 14 = .ok (.invokestatic 130, 3) := by decide +kernel
theorem dX8_come_17 : decode cX8_come 17 = .ok (.ifCond .eq 59, 3) := by decide +kernel
theorem dX8_come_20 : decode cX8_come 20 = .ok (.aload_n 0, 1) := by decide +kernel
theorem dX8_come_21 : decode cX8_come 21 = .ok (.bipush 60, 2) := by decide +kernel
theorem dX8_come_23 : decode cX8_come 23 = .ok (.aload_n 0, 1) := by decide +kernel
theorem dX8_come_24 : decode cX8_come 24 = .ok (.getfield 57, 3) := by decide +kernel
theorem dX8_come_27 : decode cX8_come 27 = .ok (.iload_n 3, 1) := by decide +kernel
theorem dX8_come_28 : decode cX8_come 28 = .ok (.iaload, 1) := by decide +kernel
theorem dX8_come_29 : decode cX8_come 29 = .ok (.aload_n 0, 1) := by decide +kernel
theorem dX8_come_30 : decode cX8_come 30 = .ok (.getfield 60, 3) := by decide +kernel
theorem dX8_come_33 : decode cX8_come 33 = .ok (.iload_n 3, 1) := by decide +kernel
theorem dX8_come_34 : decode cX8_come 34 = .ok (.iaload, 1) := by decide +kernel
theorem dX8_come_35 : decode cX8_come 35 = .ok (.aload_n 0, 1) := by decide +kernel
theorem dX8_come_36 : decode cX8_come 36 = .ok (.getfield 63, 3) := by decide +kernel
theorem dX8_come_39 : decode cX8_come 39 = .ok (.iload_n 3, 1) := by decide +kernel
theorem dX8_come_40 : decode cX8_come 40 = .ok (.iaload, 1) := by decide +kernel
theorem dX8_come_41 : decode cX8_come 41 = .ok (.invokevirtual 224, 3) := by decide +kernel
theorem dX8_come_44 : decode cX8_come 44 = .ok (.ifCond .ne 5, 3) := by decide +kernel
theorem dX8_come_47 : decode cX8_come 47 = .ok (.iconst (-1), 1) := by decide +kernel
theorem dX8_come_48 : decode cX8_come 48 = .ok (.ireturn, 1) := by decide +kernel
theorem dX8_come_49 : decode cX8_come 49 = .ok (.iload_n 2, 1) := by decide +kernel
theorem dX8_come_50 : decode cX8_come 50 = .ok (.aload_n 0, 1) := by decide +kernel
theorem dX8_come_51 : decode cX8_come 51 = .ok (.bipush 60, 2) := by decide +kernel
theorem dX8_come_53 : decode cX8_come 53 = .ok (.aload_n 0, 1) := by decide +kernel
theorem dX8_come_54 : decode cX8_come 54 = .ok (.getfield 57, 3) := by decide +kernel
theorem dX8_come_57 : decode cX8_come 57 = .ok (.iload_n 3, 1) := by decide +kernel
theorem dX8_come_58 : decode cX8_come 58 = .ok (.iaload, 1) := by decide +kernel
theorem dX8_come_59 : decode cX8_come 59 = .ok (.aload_n 0, 1) := by decide +kernel
theorem dX8_come_60 : decode cX8_come 60 = .ok (.getfield 60, 3) := by decide +kernel
theorem dX8_come_63 : decode cX8_come 63 = .ok (.iload_n 3, 1) := by decide +kernel
theorem dX8_come_64 : decode cX8_come 64 = .ok (.iaload, 1) := by decide +kernel
theorem dX8_come_65 : decode cX8_come 65 = .ok (.aload_n 0, 1) := by decide +kernel
theorem dX8_come_66 : decode cX8_come 66 = .ok (.getfield 63, 3) := by decide +kernel
theorem dX8_come_69 : decode cX8_come 69 = .ok (.iload_n 3, 1) := by decide +kernel
theorem dX8_come_70 : decode cX8_come 70 = .ok (.iaload, 1) := by decide +kernel
theorem dX8_come_71 : decode cX8_come 71 = .ok (.invokevirtual 229, 3) := by decide +kernel
theorem dX8_come_74 : decode cX8_come 74 = .ok (.iadd, 1) := by decide +kernel
theorem dX8_come_75 : decode cX8_come 75 = .ok (.istore_n 2, 1) := by decide +kernel
theorem dX8_come_76 : decode cX8_come 76 = .ok (.iinc 3 1, 3) := by decide +kernel
theorem dX8_come_79 : decode cX8_come 79 = .ok (.goto (-75), 3) := by decide +kernel
theorem dX8_come_82 : decode cX8_come 82 = .ok (.iload_n 2, 1) := by decide +kernel
theorem dX8_come_83 : decode cX8_come 83 = .ok (.ireturn, 1) := by decide +kernel
set_option maxRecDepth 20000 in
theorem ggX8_serves_X8_copy : GoodIn wsX8_serves wsX8_copy := goodIn_r _ [8, 2, 58, 59, 60, 61, 62, 63, 64, 65, 66, 67, 68, 69, 70, 71, 72, 73, 74, 75, 76, 77, 78, 79, 80, 81, 82, 83, 84, 85, 86, 87, 88, 89, 90, 91, 92] (by decide +kernel) (by decide +kernel)
set_option maxRecDepth 20000 in
theorem gX8_serves_X8_copy : GoodIn wsX8_serves (wsV RX8 250 RX8 yX8_copy wsX8_copy) := goodIn_app (goodIn_of _ (by decide +kernel)) ggX8_serves_X8_copy
set_option maxRecDepth 20000 in
theorem ggX8_serves_X8_come : GoodIn wsX8_serves wsX8_come := goodIn_r _ [12, 13, 14, 15, 16, 17, 18, 7, 19, 20, 21, 22, 23, 2, 24, 25, 26, 27, 28, 29, 30, 31, 32, 33, 34, 35, 36, 37, 38, 39, 40, 41, 42, 43, 44, 45, 46, 47, 48, 49, 50, 51, 52, 53, 1, 54, 55, 56, 57, 58, 59, 60, 61, 62, 63, 64, 65, 66, 67, 68, 69, 70, 71, 72, 73, 74, 75, 76, 77, 78, 79, 80, 81, 82, 83, 84, 85, 86, 87, 88, 89, 90, 91, 92] (by decide +kernel) (by decide +kernel)
set_option maxRecDepth 20000 in
theorem gX8_serves_X8_come : GoodIn wsX8_serves (wsV RX8 263 RX8 yX8_come wsX8_come) := goodIn_app (goodIn_of _ (by decide +kernel)) ggX8_serves_X8_come
theorem dX8_serves_0 : decode cX8_serves 0 = .ok (.aload_n 0, 1) := by decide +kernel
theorem dX8_serves_1 : decode cX8_serves 1 = .ok (.iconst 0, 1) := by decide +kernel
theorem dX8_serves_2 : decode cX8_serves 2 = .ok (.bipush 60, 2) := by decide +kernel
theorem dX8_serves_4 : decode cX8_serves 4 = .ok (.invokevirtual 250, 3) := by decide +kernel
theorem dX8_serves_7 : decode cX8_serves 7 = .ok (.iconst 0, 1) := by decide +kernel
theorem dX8_serves_8 : decode cX8_serves 8 = .ok (.istore_n 1, 1) := by decide +kernel
theorem dX8_serves_9 : decode cX8_serves 9 = .ok (.iload_n 1, 1) := by decide +kernel
theorem dX8_serves_10 : decode cX8_serves 10 = .ok (.aload_n 0, 1) := by decide +kernel
theorem dX8_serves_11 : decode cX8_serves 11 = .ok (.getfield 164, 3) := by decide +kernel
theorem dX8_serves_14 : decode cX8_serves 14 = .ok (.if_icmp .ge 52, 3) := by decide +kernel
theorem dX8_serves_17 : decode cX8_serves 17 = .ok (.aload_n 0, 1) := by decide +kernel
theorem dX8_serves_18 : decode cX8_serves 18 = .ok (.getfield 7, 3) := by decide +kernel
theorem dX8_serves_21 : decode cX8_serves 21 = .ok (.bipush 60, 2) := by decide +kernel
theorem dX8_serves_23 : decode cX8_serves 23 = .ok (.iload_n 1, 1) := by decide +kernel
theorem dX8_serves_24 : decode cX8_serves 24 = .ok (.iadd, 1) := by decide +kernel
theorem dX8_serves_25 : decode cX8_serves 25 = .ok (.dup2, 1) := by decide +kernel
theorem dX8_serves_26 : decode cX8_serves 26 = .ok (.iaload, 1) := by decide +kernel
theorem dX8_serves_27 : decode cX8_serves 27 = .ok (.aload_n 0, 1) := by decide +kernel
theorem dX8_serves_28 : decode cX8_serves 28 = .ok (.getfield 54, 3) := by decide +kernel
theorem dX8_serves_31 : decode cX8_serves 31 = .ok (.iload_n 1, 1) := by decide +kernel
theorem dX8_serves_32 : decode cX8_serves 32 = .ok (.iaload, 1) := by decide +kernel
theorem dX8_serves_33 : decode cX8_serves 33 = .ok (.iadd, 1) := by decide +kernel
theorem dX8_serves_34 : decode cX8_serves 34 = .ok (.iastore, 1) := by decide +kernel
theorem dX8_serves_35 : decode cX8_serves 35 = .ok (.aload_n 0, 1) := by decide +kernel
theorem dX8_serves_36 : decode cX8_serves 36 = .ok (.getfield 54, 3) := by decide +kernel
theorem dX8_serves_39 : decode cX8_serves 39 = .ok (.iload_n 1, 1) := by decide +kernel
theorem dX8_serves_40 : decode cX8_serves 40 = .ok (.iaload, 1) := by decide +kernel
theorem dX8_serves_41 : decode cX8_serves 41 = .ok (.ifCond .le 19, 3) := by decide +kernel
theorem dX8_serves_44 : decode cX8_serves 44 = .ok (.aload_n 0, 1) := by decide +kernel
theorem dX8_serves_45 : decode cX8_serves 45 = .ok (.getfield 7, 3) := by decide +kernel
theorem dX8_serves_48 : decode cX8_serves 48 = .ok (.bipush 60, 2) := by decide +kernel
theorem dX8_serves_50 : decode cX8_serves 50 = .ok (.iload_n 1, 1) := by decide +kernel
theorem dX8_serves_51 : decode cX8_serves 51 = .ok (.iadd, 1) := by decide +kernel
theorem dX8_serves_52 : decode cX8_serves 52 = .ok (.iaload, 1) := by decide +kernel
theorem dX8_serves_53 : decode cX8_serves 53 = .ok (.bipush 60, 2) := by decide +kernel
theorem dX8_serves_55 : decode cX8_serves 55 = .ok (.if_icmp .le 5, 3) := by decide +kernel
theorem dX8_serves_58 : decode cX8_serves 58 = .ok (.iconst 0, 1) := by decide +kernel
theorem dX8_serves_59 : decode cX8_serves 59 = .ok (.ireturn, 1) := by decide +kernel
theorem dX8_serves_60 : decode cX8_serves 60 = .ok (.iinc 1 1, 3) := by decide +kernel
theorem dX8_serves_63 : decode cX8_serves 63 = .ok (.goto (-54), 3) := by decide +kernel
theorem dX8_serves_66 : decode cX8_serves 66 = .ok (.aload_n 0, 1) := by decide +kernel
theorem dX8_serves_67 : decode cX8_serves 67 = .ok (.sipush 255, 3) := by decide +kernel
theorem dX8_serves_70 : decode cX8_serves 70 = .ok (.invokevirtual 263, 3) := by decide +kernel
theorem dX8_serves_73 : decode cX8_serves 73 = .ok (.ifCond .ne 7, 3) := by decide +kernel
theorem dX8_serves_76 : decode cX8_serves 76 = .ok (.iconst 1, 1) := by decide +kernel
theorem dX8_serves_77 : decode cX8_serves 77 = .ok (.goto 4, 3) := by decide +kernel
theorem dX8_serves_80 : decode cX8_serves 80 = .ok (.iconst 0, 1) := by decide +kernel
theorem dX8_serves_81 : decode cX8_serves 81 = .ok (.ireturn, 1) := by decide +kernel
set_option maxRecDepth 20000 in
theorem ggX8_fill_X8_isKind : GoodIn wsX8_fill wsX8_isKind := goodIn_r _ [7, 8, 9, 10, 6, 11, 75, 76, 77, 78, 79, 80, 81, 82, 83, 84, 85, 86, 87, 88, 89, 90, 91, 92, 93, 94, 95, 96, 97, 98, 99, 100, 101, 102, 103, 104, 105, 106, 107, 108, 109] (by decide +kernel) (by decide +kernel)
set_option maxRecDepth 20000 in
theorem gX8_fill_X8_isKind : GoodIn wsX8_fill (wsV RX8 189 RX8 yX8_isKind wsX8_isKind) := goodIn_app (goodIn_of _ (by decide +kernel)) ggX8_fill_X8_isKind
set_option maxRecDepth 20000 in
theorem ggX8_fill_X8_codes : GoodIn wsX8_fill wsX8_codes := goodIn_r _ [15, 8, 75, 76, 77, 78, 79, 80, 81, 82, 83, 84, 85, 86, 87, 88, 89, 90, 91, 92, 93, 94, 95, 96, 97, 98, 99, 100, 101, 102, 103, 104, 105, 106, 107, 108, 109] (by decide +kernel) (by decide +kernel)
set_option maxRecDepth 20000 in
theorem gX8_fill_X8_codes : GoodIn wsX8_fill (wsV RX8 254 RX8 yX8_codes wsX8_codes) := goodIn_app (goodIn_of _ (by decide +kernel)) ggX8_fill_X8_codes
set_option maxRecDepth 20000 in
theorem ggX8_fill_X8_layRow : GoodIn wsX8_fill wsX8_layRow := goodIn_r _ [19, 8, 2, 75, 76, 77, 78, 79, 80, 81, 82, 83, 84, 85, 86, 87, 88, 89, 90, 91, 92, 93, 94, 95, 96, 97, 98, 99, 100, 101, 102, 103, 104, 105, 106, 107, 108, 109] (by decide +kernel) (by decide +kernel)
set_option maxRecDepth 20000 in
theorem gX8_fill_X8_layRow : GoodIn wsX8_fill (wsV RX8 257 RX8 yX8_layRow wsX8_layRow) := goodIn_app (goodIn_of _ (by decide +kernel)) ggX8_fill_X8_layRow
set_option maxRecDepth 20000 in
theorem ggX8_fill_X8_serves : GoodIn wsX8_fill wsX8_serves := goodIn_r _ [23, 8, 24, 2, 25, 26, 27, 6, 28, 29, 30, 31, 32, 33, 34, 35, 36, 37, 38, 39, 40, 41, 42, 43, 44, 45, 46, 47, 48, 49, 50, 51, 52, 53, 9, 10, 11, 54, 55, 56, 57, 58, 59, 60, 61, 62, 63, 64, 65, 66, 67, 68, 69, 70, 71, 72, 73, 74, 75, 76, 77, 78, 79, 80, 81, 82, 83, 84, 85, 86, 87, 88, 89, 90, 91, 92, 93, 94, 95, 96, 97, 98, 99, 100, 101, 102, 103, 104, 105, 106, 107, 108, 109] (by decide +kernel) (by decide +kernel)
set_option maxRecDepth 20000 in
theorem gX8_fill_X8_serves : GoodIn wsX8_fill (wsV RX8 266 RX8 yX8_serves wsX8_serves) := goodIn_app (goodIn_of _ (by decide +kernel)) ggX8_fill_X8_serves
theorem dX8_fill_0 : decode cX8_fill 0 = .ok (.iload_n 1, 1) := by decide +kernel
theorem dX8_fill_1 : decode cX8_fill 1 = .ok (.iconst (-1), 1) := by decide +kernel
theorem dX8_fill_2 : decode cX8_fill 2 = .ok (.if_icmp .eq 14, 3) := by decide +kernel
theorem dX8_fill_5 : decode cX8_fill 5 = .ok (.aload_n 0, 1) := by decide +kernel
theorem dX8_fill_6 : decode cX8_fill 6 = .ok (.iload_n 1, 1) := by decide +kernel
theorem dX8_fill_7 : decode cX8_fill 7 = .ok (.invokevirtual 189, 3) := by decide +kernel
theorem dX8_fill_10 : decode cX8_fill 10 = .ok (.ifCond .ne 6, 3) := by decide +kernel
theorem dX8_fill_13 : decode cX8_fill 13 = .ok (.ldc 193, 2) := by decide +kernel
theorem dX8_fill_15 : decode cX8_fill 15 = .ok (.ireturn, 1) := by decide +kernel
theorem dX8_fill_16 : decode cX8_fill 16 = .ok (.iconst (-1), 1) := by decide +kernel
theorem dX8_fill_17 : decode cX8_fill 17 = .ok (.istore_n 2, 1) := by decide +kernel
