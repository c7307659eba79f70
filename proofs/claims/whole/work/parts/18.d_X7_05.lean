theorem dX7_best_37 : decode cX7_best 37 = .ok (.ireturn, 1) := by decide +kernel
theorem dX7_best_38 : decode cX7_best 38 = .ok (.bipush 99, 2) := by decide +kernel
theorem dX7_best_40 : decode cX7_best 40 = .ok (.iload_n 2, 1) := by decide +kernel
theorem dX7_best_41 : decode cX7_best 41 = .ok (.bipush 100, 2) := by decide +kernel
theorem dX7_best_43 : decode cX7_best 43 = .ok (.irem, 1) := by decide +kernel
theorem dX7_best_44 : decode cX7_best 44 = .ok (.isub, 1) := by decide +kernel
theorem dX7_best_45 : decode cX7_best 45 = .ok (.istore_n 3, 1) := by decide +kernel
theorem dX7_best_46 : decode cX7_best 46 = .ok (.iload_n 1, 1) := by decide +kernel
theorem dX7_best_47 : decode cX7_best 47 = .ok (.lookupswitch 40 #[(0, 25), (1, 27)], 25) := by decide +kernel
theorem dX7_best_72 : decode cX7_best 72 = .ok (.iload_n 3, 1) := by decide +kernel
theorem dX7_best_73 : decode cX7_best 73 = .ok (.ireturn, 1) := by decide +kernel
theorem dX7_best_74 : decode cX7_best 74 = .ok (.iload_n 3, 1) := by decide +kernel
theorem dX7_best_75 : decode cX7_best 75 = .ok (.bipush 99, 2) := by decide +kernel
theorem dX7_best_77 : decode cX7_best 77 = .ok (.iadd, 1) := by decide +kernel
theorem dX7_best_78 : decode cX7_best 78 = .ok (.iload_n 2, 1) := by decide +kernel
theorem dX7_best_79 : decode cX7_best 79 = .ok (.bipush 100, 2) := by decide +kernel
theorem dX7_best_81 : decode cX7_best 81 = .ok (.idiv, 1) := by decide +kernel
theorem dX7_best_82 : decode cX7_best 82 = .ok (.bipush 100, 2) := by decide +kernel
theorem dX7_best_84 : decode cX7_best 84 = .ok (.irem, 1) := by decide +kernel
theorem dX7_best_85 : decode cX7_best 85 = .ok (.isub, 1) := by decide +kernel
theorem dX7_best_86 : decode cX7_best 86 = .ok (.ireturn, 1) := by decide +kernel
theorem dX7_best_87 : decode cX7_best 87 = .ok (.iload_n 2, 1) := by decide +kernel
theorem dX7_best_88 : decode cX7_best 88 = .ok (.sipush 10000, 3) := by decide +kernel
theorem dX7_best_91 : decode cX7_best 91 = .ok (.idiv, 1) := by decide +kernel
theorem dX7_best_92 : decode cX7_best 92 = .ok (.ireturn, 1) := by decide +kernel
set_option maxRecDepth 20000 in
theorem ggX7_rankOfBestSpan_X7_rankOfSpan : GoodIn wsX7_rankOfBestSpan wsX7_rankOfSpan := goodIn_r _ [11, 5, 6, 12, 13, 14, 15, 16, 17, 18, 19, 20, 21, 22, 23, 24, 25, 26, 27, 28, 29, 30, 31, 32, 33, 34, 35, 37, 38, 39, 40, 41, 42, 43, 44, 45, 46, 47, 48, 49, 50, 51, 52, 53, 54, 55, 56, 57, 58, 59, 60, 61, 62, 63, 64, 65, 66, 67, 68, 69, 70, 71] (by decide +kernel) (by decide +kernel)
set_option maxRecDepth 20000 in
theorem gX7_rankOfBestSpan_X7_rankOfSpan : GoodIn wsX7_rankOfBestSpan (wsV RX7 298 RX7 yX7_rankOfSpan wsX7_rankOfSpan) := goodIn_app (goodIn_of _ (by decide +kernel)) ggX7_rankOfBestSpan_X7_rankOfSpan
set_option maxRecDepth 20000 in
theorem ggX7_rankOfBestSpan_X1_weightNow : GoodIn wsX7_rankOfBestSpan wsX1_weightNow := goodIn_r _ [27, 28, 48, 49, 50, 51, 52, 53, 54, 55, 56, 57, 58, 59, 60, 61, 62, 63, 64, 65, 66, 67, 68, 69, 70, 71] (by decide +kernel) (by decide +kernel)
set_option maxRecDepth 20000 in
theorem gX7_rankOfBestSpan_X1_weightNow : GoodIn wsX7_rankOfBestSpan (wsV RX7 145 RX1 yX1_weightNow wsX1_weightNow) := goodIn_app (goodIn_of _ (by decide +kernel)) ggX7_rankOfBestSpan_X1_weightNow
theorem dX7_rankOfBestSpan_0 : decode cX7_rankOfBestSpan 0 = .ok (.iconst (-1), 1) := by decide +kernel
theorem dX7_rankOfBestSpan_1 : decode cX7_rankOfBestSpan 1 = .ok (.istore_n 1, 1) := by decide +kernel
theorem dX7_rankOfBestSpan_2 : decode cX7_rankOfBestSpan 2 = .ok (.iconst 1, 1) := by decide +kernel
theorem dX7_rankOfBestSpan_3 : decode cX7_rankOfBestSpan 3 = .ok (.istore_n 2, 1) := by decide +kernel
theorem dX7_rankOfBestSpan_4 : decode cX7_rankOfBestSpan 4 = .ok (.iload_n 2, 1) := by decide +kernel
theorem dX7_rankOfBestSpan_5 : decode cX7_rankOfBestSpan 5 = .ok (.bipush 99, 2) := by decide +kernel
theorem dX7_rankOfBestSpan_7 : decode cX7_rankOfBestSpan 7 = .ok (.if_icmp .gt 20, 3) := by decide +kernel
theorem dX7_rankOfBestSpan_10 : decode cX7_rankOfBestSpan 10 = .ok (.iload_n 1, 1) := by decide +kernel
theorem dX7_rankOfBestSpan_11 : decode cX7_rankOfBestSpan 11 = .ok (.aload_n 0, 1) := by decide +kernel
theorem dX7_rankOfBestSpan_12 : decode cX7_rankOfBestSpan 12 = .ok (.iload_n 2, 1) := by decide +kernel
theorem dX7_rankOfBestSpan_13 : decode cX7_rankOfBestSpan 13 = .ok (.iload_n 2, 1) := by decide +kernel
theorem dX7_rankOfBestSpan_14 : decode cX7_rankOfBestSpan 14 = .ok (.invokevirtual 298, 3) := by decide +kernel
theorem dX7_rankOfBestSpan_17 : decode cX7_rankOfBestSpan 17 = .ok (.invokestatic 301, 3) := by decide +kernel
theorem dX7_rankOfBestSpan_20 : decode cX7_rankOfBestSpan 20 = .ok (.istore_n 1, 1) := by decide +kernel
theorem dX7_rankOfBestSpan_21 : decode cX7_rankOfBestSpan 21 = .ok (.iinc 2 1, 3) := by decide +kernel
theorem dX7_rankOfBestSpan_24 : decode cX7_rankOfBestSpan 24 = .ok (.goto (-20), 3) := by decide +kernel
theorem dX7_rankOfBestSpan_27 : decode cX7_rankOfBestSpan 27 = .ok (.iconst 0, 1) := by decide +kernel
theorem dX7_rankOfBestSpan_28 : decode cX7_rankOfBestSpan 28 = .ok (.istore_n 2, 1) := by decide +kernel
theorem dX7_rankOfBestSpan_29 : decode cX7_rankOfBestSpan 29 = .ok (.iload_n 2, 1) := by decide +kernel
theorem dX7_rankOfBestSpan_30 : decode cX7_rankOfBestSpan 30 = .ok (.aload_n 0, 1) := by decide +kernel
theorem dX7_rankOfBestSpan_31 : decode cX7_rankOfBestSpan 31 = .ok (.getfield 64, 3) := by decide +kernel
theorem dX7_rankOfBestSpan_34 : decode cX7_rankOfBestSpan 34 = .ok (.getfield 108, 3) := by decide +kernel
theorem dX7_rankOfBestSpan_37 : decode cX7_rankOfBestSpan 37 = .ok (.if_icmp .ge 61, 3) := by decide +kernel
theorem dX7_rankOfBestSpan_40 : decode cX7_rankOfBestSpan 40 = .ok (.iconst 0, 1) := by decide +kernel
theorem dX7_rankOfBestSpan_41 : decode cX7_rankOfBestSpan 41 = .ok (.istore_n 3, 1) := by decide +kernel
theorem dX7_rankOfBestSpan_42 : decode cX7_rankOfBestSpan 42 = .ok (.iload_n 3, 1) := by decide +kernel
theorem dX7_rankOfBestSpan_43 : decode cX7_rankOfBestSpan 43 = .ok (.aload_n 0, 1) := by decide +kernel
theorem dX7_rankOfBestSpan_44 : decode cX7_rankOfBestSpan 44 = .ok (.getfield 64, 3) := by decide +kernel
theorem dX7_rankOfBestSpan_47 : decode cX7_rankOfBestSpan 47 = .ok (.getfield 108, 3) := by decide +kernel
theorem dX7_rankOfBestSpan_50 : decode cX7_rankOfBestSpan 50 = .ok (.if_icmp .ge 42, 3) := by decide +kernel
theorem dX7_rankOfBestSpan_53 : decode cX7_rankOfBestSpan 53 = .ok (.iload_n 1, 1) := by decide +kernel
theorem dX7_rankOfBestSpan_54 : decode cX7_rankOfBestSpan 54 = .ok (.aload_n 0, 1) := by decide +kernel
theorem dX7_rankOfBestSpan_55 : decode cX7_rankOfBestSpan 55 = .ok (.aload_n 0, 1) := by decide +kernel
theorem dX7_rankOfBestSpan_56 : decode cX7_rankOfBestSpan 56 = .ok (.getfield 64, 3) := by decide +kernel
theorem dX7_rankOfBestSpan_59 : decode cX7_rankOfBestSpan 59 = .ok (.aload_n 0, 1) := by decide +kernel
theorem dX7_rankOfBestSpan_60 : decode cX7_rankOfBestSpan 60 = .ok (.getfield 68, 3) := by decide +kernel
theorem dX7_rankOfBestSpan_63 : decode cX7_rankOfBestSpan 63 = .ok (.iload_n 2, 1) := by decide +kernel
theorem dX7_rankOfBestSpan_64 : decode cX7_rankOfBestSpan 64 = .ok (.invokevirtual 145, 3) := by decide +kernel
theorem dX7_rankOfBestSpan_67 : decode cX7_rankOfBestSpan 67 = .ok (.aload_n 0, 1) := by decide +kernel
theorem dX7_rankOfBestSpan_68 : decode cX7_rankOfBestSpan 68 = .ok (.getfield 64, 3) := by decide +kernel
theorem dX7_rankOfBestSpan_71 : decode cX7_rankOfBestSpan 71 = .ok (.aload_n 0, 1) := by decide +kernel
theorem dX7_rankOfBestSpan_72 : decode cX7_rankOfBestSpan 72 = .ok (.getfield 68, 3) := by decide +kernel
theorem dX7_rankOfBestSpan_75 : decode cX7_rankOfBestSpan 75 = .ok (.iload_n 3, 1) := by decide +kernel
theorem dX7_rankOfBestSpan_76 : decode cX7_rankOfBestSpan 76 = .ok (.invokevirtual 145, 3) := by decide +kernel
theorem dX7_rankOfBestSpan_79 : decode cX7_rankOfBestSpan 79 = .ok (.invokevirtual 298, 3) := by decide +kernel
theorem dX7_rankOfBestSpan_82 : decode cX7_rankOfBestSpan 82 = .ok (.invokestatic 301, 3) := by decide +kernel
theorem dX7_rankOfBestSpan_85 : decode cX7_rankOfBestSpan 85 = .ok (.istore_n 1, 1) := by decide +kernel
theorem dX7_rankOfBestSpan_86 : decode cX7_rankOfBestSpan 86 = .ok (.iinc 3 1, 3) := by decide +kernel
theorem dX7_rankOfBestSpan_89 : decode cX7_rankOfBestSpan 89 = .ok (.goto (-47), 3) := by decide +kernel
theorem dX7_rankOfBestSpan_92 : decode cX7_rankOfBestSpan 92 = .ok (.iinc 2 1, 3) := by decide +kernel
theorem dX7_rankOfBestSpan_95 : decode cX7_rankOfBestSpan 95 = .ok (.goto (-66), 3) := by decide +kernel
theorem dX7_rankOfBestSpan_98 : decode cX7_rankOfBestSpan 98 = .ok (.iload_n 1, 1) := by decide +kernel
theorem dX7_rankOfBestSpan_99 : decode cX7_rankOfBestSpan 99 = .ok (.ireturn, 1) := by decide +kernel
set_option maxRecDepth 20000 in
theorem ggX7_rankOfSpan_X1_slugsWithin : GoodIn wsX7_rankOfSpan wsX1_slugsWithin := goodIn_r _ [7, 8, 9, 38, 39, 40, 41, 42, 43, 44, 45, 46] (by decide +kernel) (by decide +kernel)
set_option maxRecDepth 20000 in
theorem gX7_rankOfSpan_X1_slugsWithin : GoodIn wsX7_rankOfSpan (wsV RX7 183 RX1 yX1_slugsWithin wsX1_slugsWithin) := goodIn_app (goodIn_of _ (by decide +kernel)) ggX7_rankOfSpan_X1_slugsWithin
set_option maxRecDepth 20000 in
theorem ggX7_rankOfSpan_X1_kindsWithin : GoodIn wsX7_rankOfSpan wsX1_kindsWithin := goodIn_r _ [13, 14, 15, 16, 17, 6, 18, 19, 38, 39, 40, 41, 42, 43, 44, 45, 46, 47, 48, 49, 50, 51, 52, 53, 54, 55, 56, 57, 58, 59, 60, 61] (by decide +kernel) (by decide +kernel)
set_option maxRecDepth 20000 in
theorem gX7_rankOfSpan_X1_kindsWithin : GoodIn wsX7_rankOfSpan (wsV RX7 179 RX1 yX1_kindsWithin wsX1_kindsWithin) := goodIn_app (goodIn_of _ (by decide +kernel)) ggX7_rankOfSpan_X1_kindsWithin
set_option maxRecDepth 20000 in
theorem ggX7_rankOfSpan_J6_bitCount_0f7a4 : GoodIn wsX7_rankOfSpan wsJ6_bitCount_0f7a4 := goodIn_r _ [23, 24, 25, 26] (by decide +kernel) (by decide +kernel)
set_option maxRecDepth 20000 in
theorem gX7_rankOfSpan_J6_bitCount_0f7a4 : GoodIn wsX7_rankOfSpan (va_wsS RX7 304 yJ6_bitCount_0f7a4 wsJ6_bitCount_0f7a4) := goodIn_app (goodIn_of _ (by decide +kernel)) ggX7_rankOfSpan_J6_bitCount_0f7a4
theorem dX7_rankOfSpan_0 : decode cX7_rankOfSpan 0 = .ok (.iload_n 2, 1) := by decide +kernel
theorem dX7_rankOfSpan_1 : decode cX7_rankOfSpan 1 = .ok (.iload_n 1, 1) := by decide +kernel
theorem dX7_rankOfSpan_2 : decode cX7_rankOfSpan 2 = .ok (.if_icmp .lt 15, 3) := by decide +kernel
theorem dX7_rankOfSpan_5 : decode cX7_rankOfSpan 5 = .ok (.aload_n 0, 1) := by decide +kernel
theorem dX7_rankOfSpan_6 : decode cX7_rankOfSpan 6 = .ok (.getfield 64, 3) := by decide +kernel
theorem dX7_rankOfSpan_9 : decode cX7_rankOfSpan 9 = .ok (.iload_n 1, 1) := by decide +kernel
theorem dX7_rankOfSpan_10 : decode cX7_rankOfSpan 10 = .ok (.iload_n 2, 1) := by decide +kernel
theorem dX7_rankOfSpan_11 : decode cX7_rankOfSpan 11 = .ok (.invokevirtual 183, 3) := by decide +kernel
theorem dX7_rankOfSpan_14 : decode cX7_rankOfSpan 14 = .ok (.ifCond .eq 5, 3) := by decide +kernel
theorem dX7_rankOfSpan_17 : decode cX7_rankOfSpan 17 = .ok (.iconst (-1), 1) := by decide +kernel
theorem dX7_rankOfSpan_18 : decode cX7_rankOfSpan 18 = .ok (.ireturn, 1) := by decide +kernel
theorem dX7_rankOfSpan_19 : decode cX7_rankOfSpan 19 = .ok (.aload_n 0, 1) := by decide +kernel
theorem dX7_rankOfSpan_20 : decode cX7_rankOfSpan 20 = .ok (.getfield 64, 3) := by decide +kernel
theorem dX7_rankOfSpan_23 : decode cX7_rankOfSpan 23 = .ok (.aload_n 0, 1) := by decide +kernel
theorem dX7_rankOfSpan_24 : decode cX7_rankOfSpan 24 = .ok (.getfield 68, 3) := by decide +kernel
theorem dX7_rankOfSpan_27 : decode cX7_rankOfSpan 27 = .ok (.iload_n 1, 1) := by decide +kernel
theorem dX7_rankOfSpan_28 : decode cX7_rankOfSpan 28 = .ok (.iload_n 2, 1) := by decide +kernel
theorem dX7_rankOfSpan_29 : decode cX7_rankOfSpan 29 = .ok (.invokevirtual 179, 3) := by decide +kernel
theorem dX7_rankOfSpan_32 : decode cX7_rankOfSpan 32 = .ok (.invokestatic 304, 3) := by decide +kernel
theorem dX7_rankOfSpan_35 : decode cX7_rankOfSpan 35 = .ok (.istore_n 3, 1) := by decide +kernel
theorem dX7_rankOfSpan_36 : decode cX7_rankOfSpan 36 = .ok (.sipush 10000, 3) := by decide +kernel
theorem dX7_rankOfSpan_39 : decode cX7_rankOfSpan 39 = .ok (.iload_n 3, 1) := by decide +kernel
theorem dX7_rankOfSpan_40 : decode cX7_rankOfSpan 40 = .ok (.imul, 1) := by decide +kernel
theorem dX7_rankOfSpan_41 : decode cX7_rankOfSpan 41 = .ok (.bipush 100, 2) := by decide +kernel
theorem dX7_rankOfSpan_43 : decode cX7_rankOfSpan 43 = .ok (.bipush 99, 2) := by decide +kernel
theorem dX7_rankOfSpan_45 : decode cX7_rankOfSpan 45 = .ok (.iload_n 2, 1) := by decide +kernel
theorem dX7_rankOfSpan_46 : decode cX7_rankOfSpan 46 = .ok (.iload_n 1, 1) := by decide +kernel
theorem dX7_rankOfSpan_47 : decode cX7_rankOfSpan 47 = .ok (.isub, 1) := by decide +kernel
theorem dX7_rankOfSpan_48 : decode cX7_rankOfSpan 48 = .ok (.isub, 1) := by decide +kernel
theorem dX7_rankOfSpan_49 : decode cX7_rankOfSpan 49 = .ok (.imul, 1) := by decide +kernel
theorem dX7_rankOfSpan_50 : decode cX7_rankOfSpan 50 = .ok (.iadd, 1) := by decide +kernel
theorem dX7_rankOfSpan_51 : decode cX7_rankOfSpan 51 = .ok (.bipush 99, 2) := by decide +kernel
theorem dX7_rankOfSpan_53 : decode cX7_rankOfSpan 53 = .ok (.iadd, 1) := by decide +kernel
theorem dX7_rankOfSpan_54 : decode cX7_rankOfSpan 54 = .ok (.iload_n 1, 1) := by decide +kernel
theorem dX7_rankOfSpan_55 : decode cX7_rankOfSpan 55 = .ok (.isub, 1) := by decide +kernel
theorem dX7_rankOfSpan_56 : decode cX7_rankOfSpan 56 = .ok (.ireturn, 1) := by decide +kernel
set_option maxRecDepth 20000 in
theorem ggX7_cheat_X1_isColumn : GoodIn wsX7_cheat wsX1_isColumn := goodIn_r _ [8, 9, 28, 29, 30, 31, 32, 33, 34, 35, 36] (by decide +kernel) (by decide +kernel)
set_option maxRecDepth 20000 in
theorem gX7_cheat_X1_isColumn : GoodIn wsX7_cheat (wsV RX7 155 RX1 yX1_isColumn wsX1_isColumn) := goodIn_app (goodIn_of _ (by decide +kernel)) ggX7_cheat_X1_isColumn
set_option maxRecDepth 20000 in
theorem ggX7_cheat_X4_cheatOf : GoodIn wsX7_cheat wsX4_cheatOf := goodIn_r _ [14, 15, 16, 37, 38, 39, 40, 41, 42, 43, 44, 45, 46, 47, 48, 49, 50, 51] (by decide +kernel) (by decide +kernel)
set_option maxRecDepth 20000 in
theorem gX7_cheat_X4_cheatOf : GoodIn wsX7_cheat (wsV RX7 309 RX4 yX4_cheatOf wsX4_cheatOf) := goodIn_app (goodIn_of _ (by decide +kernel)) ggX7_cheat_X4_cheatOf
theorem dX7_cheat_0 : decode cX7_cheat 0 = .ok (.aload_n 0, 1) := by decide +kernel
theorem dX7_cheat_1 : decode cX7_cheat 1 = .ok (.getfield 64, 3) := by decide +kernel
theorem dX7_cheat_4 : decode cX7_cheat 4 = .ok (.iload_n 1, 1) := by decide +kernel
theorem dX7_cheat_5 : decode cX7_cheat 5 = .ok (.invokevirtual 155, 3) := by decide +kernel
theorem dX7_cheat_8 : decode cX7_cheat 8 = .ok (.ifCond .eq 14, 3) := by decide +kernel
theorem dX7_cheat_11 : decode cX7_cheat 11 = .ok (.aload_n 0, 1) := by decide +kernel
theorem dX7_cheat_12 : decode cX7_cheat 12 = .ok (.getfield 68, 3) := by decide +kernel
theorem dX7_cheat_15 : decode cX7_cheat 15 = .ok (.iload_n 1, 1) := by decide +kernel
theorem dX7_cheat_16 : decode cX7_cheat 16 = .ok (.invokevirtual 309, 3) := by decide +kernel
theorem dX7_cheat_19 : decode cX7_cheat 19 = .ok (.goto 5, 3) := by decide +kernel
theorem dX7_cheat_22 : decode cX7_cheat 22 = .ok (.ldc 137, 2) := by decide +kernel
theorem dX7_cheat_24 : decode cX7_cheat 24 = .ok (.ireturn, 1) := by decide +kernel
set_option maxRecDepth 20000 in
theorem ggX7_cheats_X4_cheatOf : GoodIn wsX7_cheats wsX4_cheatOf := goodIn_r _ [7, 8, 9, 30, 31, 32, 33, 34, 35, 36, 37, 38, 39, 40, 41, 42, 43, 44] (by decide +kernel) (by decide +kernel)
set_option maxRecDepth 20000 in
theorem gX7_cheats_X4_cheatOf : GoodIn wsX7_cheats (wsV RX7 309 RX4 yX4_cheatOf wsX4_cheatOf) := goodIn_app (goodIn_of _ (by decide +kernel)) ggX7_cheats_X4_cheatOf
theorem dX7_cheats_0 : decode cX7_cheats 0 = .ok (.iconst (-1), 1) := by decide +kernel
theorem dX7_cheats_1 : decode cX7_cheats 1 = .ok (.istore_n 1, 1) := by decide +kernel
theorem dX7_cheats_2 : decode cX7_cheats 2 = .ok (.iconst 0, 1) := by decide +kernel
theorem dX7_cheats_3 : decode cX7_cheats 3 = .ok (.istore_n 2, 1) := by decide +kernel
theorem dX7_cheats_4 : decode cX7_cheats 4 = .ok (.iconst 0, 1) := by decide +kernel
theorem dX7_cheats_5 : decode cX7_cheats 5 = .ok (.istore_n 3, 1) := by decide +kernel
theorem dX7_cheats_6 : decode cX7_cheats 6 = .ok (.iload_n 3, 1) := by decide +kernel
theorem dX7_cheats_7 : decode cX7_cheats 7 = .ok (.aload_n 0, 1) := by decide +kernel
theorem dX7_cheats_8 : decode cX7_cheats 8 = .ok (.getfield 64, 3) := by decide +kernel
theorem dX7_cheats_11 : decode cX7_cheats 11 = .ok (.getfield 104, 3) := by decide +kernel
theorem dX7_cheats_14 : decode cX7_cheats 14 = .ok (.if_icmp .ge 32, 3) := by decide +kernel
theorem dX7_cheats_17 : decode cX7_cheats 17 = .ok (.aload_n 0, 1) := by decide +kernel
theorem dX7_cheats_18 : decode cX7_cheats 18 = .ok (.getfield 68, 3) := by decide +kernel
theorem dX7_cheats_21 : decode cX7_cheats 21 = .ok (.iload_n 3, 1) := by decide +kernel
theorem dX7_cheats_22 : decode cX7_cheats 22 = .ok (.invokevirtual 309, 3) := by decide +kernel
theorem dX7_cheats_25 : decode cX7_cheats 25 = .ok (.iload_n 2, 1) := by decide +kernel
theorem dX7_cheats_26 : decode cX7_cheats 26 = .ok (.if_icmp .le 14, 3) := by decide +kernel
theorem dX7_cheats_29 : decode cX7_cheats 29 = .ok (.aload_n 0, 1) := by decide +kernel
theorem dX7_cheats_30 : decode cX7_cheats 30 = .ok (.getfield 68, 3) := by decide +kernel
theorem dX7_cheats_33 : decode cX7_cheats 33 = .ok (.iload_n 3, 1) := by decide +kernel
theorem dX7_cheats_34 : decode cX7_cheats 34 = .ok (.invokevirtual 309, 3) := by decide +kernel
theorem dX7_cheats_37 : decode cX7_cheats 37 = .ok (.istore_n 2, 1) := by decide +kernel
theorem dX7_cheats_38 : decode cX7_cheats 38 = .ok (.iload_n 3, 1) := by decide +kernel
theorem dX7_cheats_39 : decode cX7_cheats 39 = .ok (.istore_n 1, 1) := by decide +kernel
theorem dX7_cheats_40 : decode cX7_cheats 40 = .ok (.iinc 3 1, 3) := by decide +kernel
theorem dX7_cheats_43 : decode cX7_cheats 43 = .ok (.goto (-37), 3) := by decide +kernel
theorem dX7_cheats_46 : decode cX7_cheats 46 = .ok (.iload_n 1, 1) := by decide +kernel
theorem dX7_cheats_47 : decode cX7_cheats 47 = .ok (.ireturn, 1) := by decide +kernel
set_option maxRecDepth 20000 in
theorem ggX7_attempt_X6_add : GoodIn wsX7_attempt wsX6_add := goodIn_r _ [8, 9, 10, 11, 12, 24, 25, 26, 27] (by decide +kernel) (by decide +kernel)
set_option maxRecDepth 20000 in
theorem gX7_attempt_X6_add : GoodIn wsX7_attempt (wsV RX7 312 RX6 yX6_add wsX6_add) := goodIn_app (goodIn_of _ (by decide +kernel)) ggX7_attempt_X6_add
theorem dX7_attempt_0 : decode cX7_attempt 0 = .ok (.iload_n 2, 1) := by decide +kernel
theorem dX7_attempt_1 : decode cX7_attempt 1 = .ok (.iconst 1, 1) := by decide +kernel
theorem dX7_attempt_2 : decode cX7_attempt 2 = .ok (.if_icmp .lt 20, 3) := by decide +kernel
theorem dX7_attempt_5 : decode cX7_attempt 5 = .ok (.iload_n 2, 1) := by decide +kernel
theorem dX7_attempt_6 : decode cX7_attempt 6 = .ok (.bipush 8, 2) := by decide +kernel
theorem dX7_attempt_8 : decode cX7_attempt 8 = .ok (.if_icmp .gt 14, 3) := by decide +kernel
theorem dX7_attempt_11 : decode cX7_attempt 11 = .ok (.iload_n 1, 1) := by decide +kernel
theorem dX7_attempt_12 : decode cX7_attempt 12 = .ok (.ifCond .lt 10, 3) := by decide +kernel
theorem dX7_attempt_15 : decode cX7_attempt 15 = .ok (.iload_n 1, 1) := by decide +kernel
theorem dX7_attempt_16 : decode cX7_attempt 16 = .ok (.iconst 1, 1) := by decide +kernel
theorem dX7_attempt_17 : decode cX7_attempt 17 = .ok (.iload_n 2, 1) := by decide +kernel
theorem dX7_attempt_18 : decode cX7_attempt 18 = .ok (.ishl, 1) := by decide +kernel
theorem dX7_attempt_19 : decode cX7_attempt 19 = .ok (.if_icmp .lt 6, 3) := by decide +kernel
theorem dX7_attempt_22 : decode cX7_attempt 22 = .ok (.ldc 75, 2) := by decide +kernel
theorem dX7_attempt_24 : decode cX7_attempt 24 = .ok (.ireturn, 1) := by decide +kernel
theorem dX7_attempt_25 : decode cX7_attempt 25 = .ok (.aload_n 0, 1) := by decide +kernel
theorem dX7_attempt_26 : decode cX7_attempt 26 = .ok (.getfield 45, 3) := by decide +kernel
theorem dX7_attempt_29 : decode cX7_attempt 29 = .ok (.iload_n 1, 1) := by decide +kernel
theorem dX7_attempt_30 : decode cX7_attempt 30 = .ok (.iload_n 2, 1) := by decide +kernel
theorem dX7_attempt_31 : decode cX7_attempt 31 = .ok (.iload_n 3, 1) := by decide +kernel
theorem dX7_attempt_32 : decode cX7_attempt 32 = .ok (.invokevirtual 312, 3) := by decide +kernel
theorem dX7_attempt_35 : decode cX7_attempt 35 = .ok (.ifCond .eq 13, 3) := by decide +kernel
theorem dX7_attempt_38 : decode cX7_attempt 38 = .ok (.aload_n 0, 1) := by decide +kernel
theorem dX7_attempt_39 : decode cX7_attempt 39 = .ok (.getfield 45, 3) := by decide +kernel
theorem dX7_attempt_42 : decode cX7_attempt 42 = .ok (.getfield 103, 3) := by decide +kernel
theorem dX7_attempt_45 : decode cX7_attempt 45 = .ok (.goto 5, 3) := by decide +kernel
theorem dX7_attempt_48 : decode cX7_attempt 48 = .ok (.ldc 79, 2) := by decide +kernel
theorem dX7_attempt_50 : decode cX7_attempt 50 = .ok (.ireturn, 1) := by decide +kernel
set_option maxRecDepth 20000 in
theorem ggX7_fits_X6_allow : GoodIn wsX7_fits wsX6_allow := goodIn_r _ [7, 8, 9, 10, 11, 12, 13, 6, 14, 15, 27, 28, 29, 30] (by decide +kernel) (by decide +kernel)
set_option maxRecDepth 20000 in
theorem gX7_fits_X6_allow : GoodIn wsX7_fits (wsV RX7 315 RX6 yX6_allow wsX6_allow) := goodIn_app (goodIn_of _ (by decide +kernel)) ggX7_fits_X6_allow
theorem dX7_fits_0 : decode cX7_fits 0 = .ok (.iload_n 1, 1) := by decide +kernel
theorem dX7_fits_1 : decode cX7_fits 1 = .ok (.iconst 1, 1) := by decide +kernel
theorem dX7_fits_2 : decode cX7_fits 2 = .ok (.if_icmp .lt 9, 3) := by decide +kernel
theorem dX7_fits_5 : decode cX7_fits 5 = .ok (.iload_n 1, 1) := by decide +kernel
theorem dX7_fits_6 : decode cX7_fits 6 = .ok (.bipush 6, 2) := by decide +kernel
theorem dX7_fits_8 : decode cX7_fits 8 = .ok (.if_icmp .le 6, 3) := by decide +kernel
theorem dX7_fits_11 : decode cX7_fits 11 = .ok (.ldc 75, 2) := by decide +kernel
theorem dX7_fits_13 : decode cX7_fits 13 = .ok (.ireturn, 1) := by decide +kernel
theorem dX7_fits_14 : decode cX7_fits 14 = .ok (.iconst 0, 1) := by decide +kernel
theorem dX7_fits_15 : decode cX7_fits 15 = .ok (.istore_n 3, 1) := by decide +kernel
theorem dX7_fits_16 : decode cX7_fits 16 = .ok (.iconst 0, 1) := by decide +kernel
theorem dX7_fits_17 : decode cX7_fits 17 = .ok (.istore 4, 2) := by decide +kernel
theorem dX7_fits_19 : decode cX7_fits 19 = .ok (.iload 4, 2) := by decide +kernel
theorem dX7_fits_21 : decode cX7_fits 21 = .ok (.iconst 1, 1) := by decide +kernel
theorem dX7_fits_22 : decode cX7_fits 22 = .ok (.iload_n 1, 1) := by decide +kernel
theorem dX7_fits_23 : decode cX7_fits 23 = .ok (.ishl, 1) := by decide +kernel
theorem dX7_fits_24 : decode cX7_fits 24 = .ok (.if_icmp .ge 33, 3) := by decide +kernel
theorem dX7_fits_27 : decode cX7_fits 27 = .ok (.aload_n 0, 1) := by decide +kernel
theorem dX7_fits_28 : decode cX7_fits 28 = .ok (.getfield 45, 3) := by decide +kernel
theorem dX7_fits_31 : decode cX7_fits 31 = .ok (.iload 4, 2) := by decide +kernel
theorem dX7_fits_33 : decode cX7_fits 33 = .ok (.iload_n 1, 1) := by decide +kernel
theorem dX7_fits_34 : decode cX7_fits 34 = .ok (.invokevirtual 315, 3) := by decide +kernel
theorem dX7_fits_37 : decode cX7_fits 37 = .ok (.ifCond .eq 14, 3) := by decide +kernel
theorem dX7_fits_40 : decode cX7_fits 40 = .ok (.iload_n 3, 1) := by decide +kernel
theorem dX7_fits_41 : decode cX7_fits 41 = .ok (.iload_n 2, 1) := by decide +kernel
theorem dX7_fits_42 : decode cX7_fits 42 = .ok (.if_icmp .ne 6, 3) := by decide +kernel
theorem dX7_fits_45 : decode cX7_fits 45 = .ok (.iload 4, 2) := by decide +kernel
theorem dX7_fits_47 : decode cX7_fits 47 = .ok (.ireturn, 1) := by decide +kernel
theorem dX7_fits_48 : decode cX7_fits 48 = .ok (.iinc 3 1, 3) := by decide +kernel
theorem dX7_fits_51 : decode cX7_fits 51 = .ok (.iinc 4 1, 3) := by decide +kernel
theorem dX7_fits_54 : decode cX7_fits 54 = .ok (.goto (-35), 3) := by decide +kernel
theorem dX7_fits_57 : decode cX7_fits 57 = .ok (.iload_n 2, 1) := by decide +kernel
theorem dX7_fits_58 : decode cX7_fits 58 = .ok (.iconst (-1), 1) := by decide +kernel
theorem dX7_fits_59 : decode cX7_fits 59 = .ok (.if_icmp .ne 7, 3) := by decide +kernel
theorem dX7_fits_62 : decode cX7_fits 62 = .ok (.iload_n 3, 1) := by decide +kernel
theorem dX7_fits_63 : decode cX7_fits 63 = .ok (.goto 4, 3) := by decide +kernel
theorem dX7_fits_66 : decode cX7_fits 66 = .ok (.iconst (-1), 1) := by decide +kernel
theorem dX7_fits_67 : decode cX7_fits 67 = .ok (.ireturn, 1) := by decide +kernel
theorem dX7_tear_0 : decode cX7_tear 0 = .ok (.aload_n 0, 1) := by decide +kernel
theorem dX7_tear_1 : decode cX7_tear 1 = .ok (.getfield 38, 3) := by decide +kernel
theorem dX7_tear_4 : decode cX7_tear 4 = .ok (.getfield 100, 3) := by decide +kernel
theorem dX7_tear_7 : decode cX7_tear 7 = .ok (.aload_n 0, 1) := by decide +kernel
theorem dX7_tear_8 : decode cX7_tear 8 = .ok (.getfield 45, 3) := by decide +kernel
theorem dX7_tear_11 : decode cX7_tear 11 = .ok (.getfield 103, 3) := by decide +kernel
theorem dX7_tear_14 : decode cX7_tear 14 = .ok (.iadd, 1) := by decide +kernel
theorem dX7_tear_15 : decode cX7_tear 15 = .ok (.istore_n 1, 1) := by decide +kernel
theorem dX7_tear_16 : decode cX7_tear 16 = .ok (.aload_n 0, 1) := by decide +kernel
theorem dX7_tear_17 : decode cX7_tear 17 = .ok (.getfield 38, 3) := by decide +kernel
theorem dX7_tear_20 : decode cX7_tear 20 = .ok (.iconst 0, 1) := by decide +kernel
theorem dX7_tear_21 : decode cX7_tear 21 = .ok (.putfield 100, 3) := by decide +kernel
theorem dX7_tear_24 : decode cX7_tear 24 = .ok (.aload_n 0, 1) := by decide +kernel
theorem dX7_tear_25 : decode cX7_tear 25 = .ok (.getfield 45, 3) := by decide +kernel
theorem dX7_tear_28 : decode cX7_tear 28 = .ok (.iconst 0, 1) := by decide +kernel
theorem dX7_tear_29 : decode cX7_tear 29 = .ok (.putfield 103, 3) := by decide +kernel
theorem dX7_tear_32 : decode cX7_tear 32 = .ok (.iload_n 1, 1) := by decide +kernel
theorem dX7_tear_33 : decode cX7_tear 33 = .ok (.ireturn, 1) := by decide +kernel
theorem dX7_seed_0 : decode cX7_seed 0 = .ok (.iload_n 1, 1) := by decide +kernel
theorem dX7_seed_1 : decode cX7_seed 1 = .ok (.ifCond .ge 6, 3) := by decide +kernel
