theorem dX7_rowBuysAt_124 : decode cX7_rowBuysAt 124 = .ok (.goto 4, 3) := by decide +kernel
theorem dX7_rowBuysAt_127 : decode cX7_rowBuysAt 127 = .ok (.iconst 0, 1) := by decide +kernel
theorem dX7_rowBuysAt_128 : decode cX7_rowBuysAt 128 = .ok (.ireturn, 1) := by decide +kernel
set_option maxRecDepth 20000 in
theorem ggX7_rowServesBuyers_X4_copyFrom : GoodIn wsX7_rowServesBuyers wsX4_copyFrom := goodIn_r _ [14, 15, 16, 17, 18, 19, 20, 21, 22, 23, 24, 25, 26, 27, 28, 29, 97, 98, 99, 100, 101, 102, 103, 104, 105, 106, 107, 108, 109, 110, 111] (by decide +kernel) (by decide +kernel)
set_option maxRecDepth 20000 in
theorem gX7_rowServesBuyers_X4_copyFrom : GoodIn wsX7_rowServesBuyers (wsV RX7 262 RX4 yX4_copyFrom wsX4_copyFrom) := goodIn_app (goodIn_of _ (by decide +kernel)) ggX7_rowServesBuyers_X4_copyFrom
set_option maxRecDepth 20000 in
theorem ggX7_rowServesBuyers_X1_changeOf : GoodIn wsX7_rowServesBuyers wsX1_changeOf := goodIn_r _ [34, 35, 88, 89, 90, 91, 92, 93, 94, 95, 96, 97, 98, 99, 100, 101, 102, 103, 104, 105, 106, 107, 108, 109, 110, 111] (by decide +kernel) (by decide +kernel)
set_option maxRecDepth 20000 in
theorem gX7_rowServesBuyers_X1_changeOf : GoodIn wsX7_rowServesBuyers (wsV RX7 278 RX1 yX1_changeOf wsX1_changeOf) := goodIn_app (goodIn_of _ (by decide +kernel)) ggX7_rowServesBuyers_X1_changeOf
set_option maxRecDepth 20000 in
theorem ggX7_rowServesBuyers_X7_sellToBuyer : GoodIn wsX7_rowServesBuyers wsX7_sellToBuyer := goodIn_r _ [40, 3, 1, 9, 41, 42, 43, 33, 44, 45, 46, 47, 6, 7, 8, 48, 31, 32, 34, 35, 49, 50, 51, 13, 52, 17, 53, 54, 55, 56, 57, 58, 59, 60, 61, 62, 63, 64, 65, 15, 66, 67, 68, 69, 24, 70, 71, 72, 73, 74, 75, 76, 77, 78, 79, 80, 81, 82, 83, 84, 85, 86, 87, 115, 116, 117, 118, 97, 98, 99, 100, 101, 102, 103, 104, 105, 106, 107, 108, 109, 110, 111, 88, 89, 90, 91, 92, 93, 94, 95, 96] (by decide +kernel) (by decide +kernel)
set_option maxRecDepth 20000 in
theorem gX7_rowServesBuyers_X7_sellToBuyer : GoodIn wsX7_rowServesBuyers (wsV RX7 281 RX7 yX7_sellToBuyer wsX7_sellToBuyer) := goodIn_app (goodIn_of _ (by decide +kernel)) ggX7_rowServesBuyers_X7_sellToBuyer
theorem dX7_rowServesBuyers_0 : decode cX7_rowServesBuyers 0 = .ok (.aload_n 0, 1) := by decide +kernel
theorem dX7_rowServesBuyers_1 : decode cX7_rowServesBuyers 1 = .ok (.getfield 50, 3) := by decide +kernel
theorem dX7_rowServesBuyers_4 : decode cX7_rowServesBuyers 4 = .ok (.aload_n 0, 1) := by decide +kernel
theorem dX7_rowServesBuyers_5 : decode cX7_rowServesBuyers 5 = .ok (.getfield 68, 3) := by decide +kernel
theorem dX7_rowServesBuyers_8 : decode cX7_rowServesBuyers 8 = .ok (.invokevirtual 262, 3) := by decide +kernel
theorem dX7_rowServesBuyers_11 : decode cX7_rowServesBuyers 11 = .ok (.iconst 0, 1) := by decide +kernel
theorem dX7_rowServesBuyers_12 : decode cX7_rowServesBuyers 12 = .ok (.istore_n 1, 1) := by decide +kernel
theorem dX7_rowServesBuyers_13 : decode cX7_rowServesBuyers 13 = .ok (.iload_n 1, 1) := by decide +kernel
theorem dX7_rowServesBuyers_14 : decode cX7_rowServesBuyers 14 = .ok (.aload_n 0, 1) := by decide +kernel
theorem dX7_rowServesBuyers_15 : decode cX7_rowServesBuyers 15 = .ok (.getfield 64, 3) := by decide +kernel
theorem dX7_rowServesBuyers_18 : decode cX7_rowServesBuyers 18 = .ok (.getfield 108, 3) := by decide +kernel
theorem dX7_rowServesBuyers_21 : decode cX7_rowServesBuyers 21 = .ok (.if_icmp .ge 42, 3) := by decide +kernel
theorem dX7_rowServesBuyers_24 : decode cX7_rowServesBuyers 24 = .ok (.aload_n 0, 1) := by decide +kernel
theorem dX7_rowServesBuyers_25 : decode cX7_rowServesBuyers 25 = .ok (.getfield 50, 3) := by decide +kernel
theorem dX7_rowServesBuyers_28 : decode cX7_rowServesBuyers 28 = .ok (.getfield 149, 3) := by decide +kernel
theorem dX7_rowServesBuyers_31 : decode cX7_rowServesBuyers 31 = .ok (.iload_n 1, 1) := by decide +kernel
theorem dX7_rowServesBuyers_32 : decode cX7_rowServesBuyers 32 = .ok (.bipush 60, 2) := by decide +kernel
theorem dX7_rowServesBuyers_34 : decode cX7_rowServesBuyers 34 = .ok (.aload_n 0, 1) := by decide +kernel
theorem dX7_rowServesBuyers_35 : decode cX7_rowServesBuyers 35 = .ok (.getfield 50, 3) := by decide +kernel
theorem dX7_rowServesBuyers_38 : decode cX7_rowServesBuyers 38 = .ok (.getfield 149, 3) := by decide +kernel
theorem dX7_rowServesBuyers_41 : decode cX7_rowServesBuyers 41 = .ok (.iload_n 1, 1) := by decide +kernel
theorem dX7_rowServesBuyers_42 : decode cX7_rowServesBuyers 42 = .ok (.iaload, 1) := by decide +kernel
theorem dX7_rowServesBuyers_43 : decode cX7_rowServesBuyers 43 = .ok (.aload_n 0, 1) := by decide +kernel
theorem dX7_rowServesBuyers_44 : decode cX7_rowServesBuyers 44 = .ok (.getfield 57, 3) := by decide +kernel
theorem dX7_rowServesBuyers_47 : decode cX7_rowServesBuyers 47 = .ok (.getfield 251, 3) := by decide +kernel
theorem dX7_rowServesBuyers_50 : decode cX7_rowServesBuyers 50 = .ok (.iload_n 1, 1) := by decide +kernel
theorem dX7_rowServesBuyers_51 : decode cX7_rowServesBuyers 51 = .ok (.iaload, 1) := by decide +kernel
theorem dX7_rowServesBuyers_52 : decode cX7_rowServesBuyers 52 = .ok (.iadd, 1) := by decide +kernel
theorem dX7_rowServesBuyers_53 : decode cX7_rowServesBuyers 53 = .ok (.invokestatic 266, 3) := by decide +kernel
theorem dX7_rowServesBuyers_56 : decode cX7_rowServesBuyers 56 = .ok (.iastore, 1) := by decide +kernel
theorem dX7_rowServesBuyers_57 : decode cX7_rowServesBuyers 57 = .ok (.iinc 1 1, 3) := by decide +kernel
theorem dX7_rowServesBuyers_60 : decode cX7_rowServesBuyers 60 = .ok (.goto (-47), 3) := by decide +kernel
theorem dX7_rowServesBuyers_63 : decode cX7_rowServesBuyers 63 = .ok (.iconst 0, 1) := by decide +kernel
theorem dX7_rowServesBuyers_64 : decode cX7_rowServesBuyers 64 = .ok (.istore_n 1, 1) := by decide +kernel
theorem dX7_rowServesBuyers_65 : decode cX7_rowServesBuyers 65 = .ok (.iload_n 1, 1) := by decide +kernel
theorem dX7_rowServesBuyers_66 : decode cX7_rowServesBuyers 66 = .ok (.aload_n 0, 1) := by decide +kernel
theorem dX7_rowServesBuyers_67 : decode cX7_rowServesBuyers 67 = .ok (.getfield 38, 3) := by decide +kernel
theorem dX7_rowServesBuyers_70 : decode cX7_rowServesBuyers 70 = .ok (.getfield 100, 3) := by decide +kernel
theorem dX7_rowServesBuyers_73 : decode cX7_rowServesBuyers 73 = .ok (.if_icmp .ge 59, 3) := by decide +kernel
theorem dX7_rowServesBuyers_76 : decode cX7_rowServesBuyers 76 = .ok (.aload_n 0, 1) := by decide +kernel
theorem dX7_rowServesBuyers_77 : decode cX7_rowServesBuyers 77 = .ok (.getfield 64, 3) := by decide +kernel
theorem dX7_rowServesBuyers_80 : decode cX7_rowServesBuyers 80 = .ok (.aload_n 0, 1) := by decide +kernel
theorem dX7_rowServesBuyers_81 : decode cX7_rowServesBuyers 81 = .ok (.getfield 50, 3) := by decide +kernel
theorem dX7_rowServesBuyers_84 : decode cX7_rowServesBuyers 84 = .ok (.aload_n 0, 1) := by decide +kernel
theorem dX7_rowServesBuyers_85 : decode cX7_rowServesBuyers 85 = .ok (.getfield 38, 3) := by decide +kernel
theorem dX7_rowServesBuyers_88 : decode cX7_rowServesBuyers 88 = .ok (.getfield 271, 3) := by decide +kernel
theorem dX7_rowServesBuyers_91 : decode cX7_rowServesBuyers 91 = .ok (.iload_n 1, 1) := by decide +kernel
theorem dX7_rowServesBuyers_92 : decode cX7_rowServesBuyers 92 = .ok (.iaload, 1) := by decide +kernel
theorem dX7_rowServesBuyers_93 : decode cX7_rowServesBuyers 93 = .ok (.aload_n 0, 1) := by decide +kernel
theorem dX7_rowServesBuyers_94 : decode cX7_rowServesBuyers 94 = .ok (.getfield 38, 3) := by decide +kernel
theorem dX7_rowServesBuyers_97 : decode cX7_rowServesBuyers 97 = .ok (.getfield 274, 3) := by decide +kernel
theorem dX7_rowServesBuyers_100 : decode cX7_rowServesBuyers 100 = .ok (.iload_n 1, 1) := by decide +kernel
theorem dX7_rowServesBuyers_101 : decode cX7_rowServesBuyers 101 = .ok (.iaload, 1) := by decide +kernel
theorem dX7_rowServesBuyers_102 : decode cX7_rowServesBuyers 102 = .ok (.aload_n 0, 1) := by decide +kernel
theorem dX7_rowServesBuyers_103 : decode cX7_rowServesBuyers 103 = .ok (.getfield 38, 3) := by decide +kernel
theorem dX7_rowServesBuyers_106 : decode cX7_rowServesBuyers 106 = .ok (.getfield 277, 3) := by decide +kernel
theorem dX7_rowServesBuyers_109 : decode cX7_rowServesBuyers 109 = .ok (.iload_n 1, 1) := by decide +kernel
theorem dX7_rowServesBuyers_110 : decode cX7_rowServesBuyers 110 = .ok (.iaload, 1) := by decide +kernel
theorem dX7_rowServesBuyers_111 : decode cX7_rowServesBuyers 111 = .ok (.invokevirtual 278, 3) := by decide +kernel
theorem dX7_rowServesBuyers_114 : decode cX7_rowServesBuyers 114 = .ok (.istore_n 2, 1) := by decide +kernel
theorem dX7_rowServesBuyers_115 : decode cX7_rowServesBuyers 115 = .ok (.aload_n 0, 1) := by decide +kernel
theorem dX7_rowServesBuyers_116 : decode cX7_rowServesBuyers 116 = .ok (.iload_n 1, 1) := by decide +kernel
theorem dX7_rowServesBuyers_117 : decode cX7_rowServesBuyers 117 = .ok (.invokevirtual 281, 3) := by decide +kernel
theorem dX7_rowServesBuyers_120 : decode cX7_rowServesBuyers 120 = .ok (.iload_n 2, 1) := by decide +kernel
theorem dX7_rowServesBuyers_121 : decode cX7_rowServesBuyers 121 = .ok (.if_icmp .eq 5, 3) := by decide +kernel
theorem dX7_rowServesBuyers_124 : decode cX7_rowServesBuyers 124 = .ok (.iconst 0, 1) := by decide +kernel
theorem dX7_rowServesBuyers_125 : decode cX7_rowServesBuyers 125 = .ok (.ireturn, 1) := by decide +kernel
theorem dX7_rowServesBuyers_126 : decode cX7_rowServesBuyers 126 = .ok (.iinc 1 1, 3) := by decide +kernel
theorem dX7_rowServesBuyers_129 : decode cX7_rowServesBuyers 129 = .ok (.goto (-64), 3) := by decide +kernel
theorem dX7_rowServesBuyers_132 : decode cX7_rowServesBuyers 132 = .ok (.iconst 1, 1) := by decide +kernel
theorem dX7_rowServesBuyers_133 : decode cX7_rowServesBuyers 133 = .ok (.ireturn, 1) := by decide +kernel
set_option maxRecDepth 20000 in
theorem ggX7_sellToBuyer_X1_sell : GoodIn wsX7_sellToBuyer wsX1_sell := goodIn_r _ [8, 9, 10, 11, 12, 13, 14, 15, 16, 17, 7, 18, 19, 20, 21, 22, 23, 24, 25, 26, 27, 28, 29, 30, 31, 32, 33, 34, 35, 36, 37, 38, 39, 40, 41, 42, 43, 44, 45, 46, 47, 48, 49, 50, 51, 67, 68, 69, 70, 71, 72, 73, 74, 75, 76, 77, 78, 79, 80, 81, 82, 83, 84, 85, 86, 87, 88, 89, 90] (by decide +kernel) (by decide +kernel)
set_option maxRecDepth 20000 in
theorem gX7_sellToBuyer_X1_sell : GoodIn wsX7_sellToBuyer (wsV RX7 187 RX1 yX1_sell wsX1_sell) := goodIn_app (goodIn_of _ (by decide +kernel)) ggX7_sellToBuyer_X1_sell
theorem dX7_sellToBuyer_0 : decode cX7_sellToBuyer 0 = .ok (.aload_n 0, 1) := by decide +kernel
theorem dX7_sellToBuyer_1 : decode cX7_sellToBuyer 1 = .ok (.getfield 64, 3) := by decide +kernel
theorem dX7_sellToBuyer_4 : decode cX7_sellToBuyer 4 = .ok (.aload_n 0, 1) := by decide +kernel
theorem dX7_sellToBuyer_5 : decode cX7_sellToBuyer 5 = .ok (.getfield 50, 3) := by decide +kernel
theorem dX7_sellToBuyer_8 : decode cX7_sellToBuyer 8 = .ok (.aload_n 0, 1) := by decide +kernel
theorem dX7_sellToBuyer_9 : decode cX7_sellToBuyer 9 = .ok (.getfield 38, 3) := by decide +kernel
theorem dX7_sellToBuyer_12 : decode cX7_sellToBuyer 12 = .ok (.getfield 271, 3) := by decide +kernel
theorem dX7_sellToBuyer_15 : decode cX7_sellToBuyer 15 = .ok (.iload_n 1, 1) := by decide +kernel
theorem dX7_sellToBuyer_16 : decode cX7_sellToBuyer 16 = .ok (.iaload, 1) := by decide +kernel
theorem dX7_sellToBuyer_17 : decode cX7_sellToBuyer 17 = .ok (.aload_n 0, 1) := by decide +kernel
theorem dX7_sellToBuyer_18 : decode cX7_sellToBuyer 18 = .ok (.getfield 38, 3) := by decide +kernel
theorem dX7_sellToBuyer_21 : decode cX7_sellToBuyer 21 = .ok (.getfield 274, 3) := by decide +kernel
theorem dX7_sellToBuyer_24 : decode cX7_sellToBuyer 24 = .ok (.iload_n 1, 1) := by decide +kernel
theorem dX7_sellToBuyer_25 : decode cX7_sellToBuyer 25 = .ok (.iaload, 1) := by decide +kernel
theorem dX7_sellToBuyer_26 : decode cX7_sellToBuyer 26 = .ok (.aload_n 0, 1) := by decide +kernel
theorem dX7_sellToBuyer_27 : decode cX7_sellToBuyer 27 = .ok (.getfield 38, 3) := by decide +kernel
theorem dX7_sellToBuyer_30 : decode cX7_sellToBuyer 30 = .ok (.getfield 277, 3) := by decide +kernel
theorem dX7_sellToBuyer_33 : decode cX7_sellToBuyer 33 = .ok (.iload_n 1, 1) := by decide +kernel
theorem dX7_sellToBuyer_34 : decode cX7_sellToBuyer 34 = .ok (.iaload, 1) := by decide +kernel
theorem dX7_sellToBuyer_35 : decode cX7_sellToBuyer 35 = .ok (.invokevirtual 187, 3) := by decide +kernel
theorem dX7_sellToBuyer_38 : decode cX7_sellToBuyer 38 = .ok (.ireturn, 1) := by decide +kernel
set_option maxRecDepth 20000 in
theorem ggX7_shortOn_X4_copyFrom : GoodIn wsX7_shortOn wsX4_copyFrom := goodIn_r _ [8, 9, 10, 11, 12, 13, 14, 15, 16, 17, 18, 19, 20, 21, 22, 23, 98, 99, 100, 101, 102, 103, 104, 105, 106, 107, 108, 109, 110, 111, 112] (by decide +kernel) (by decide +kernel)
set_option maxRecDepth 20000 in
theorem gX7_shortOn_X4_copyFrom : GoodIn wsX7_shortOn (wsV RX7 262 RX4 yX4_copyFrom wsX4_copyFrom) := goodIn_app (goodIn_of _ (by decide +kernel)) ggX7_shortOn_X4_copyFrom
set_option maxRecDepth 20000 in
theorem ggX7_shortOn_X7_allBuyersServed : GoodIn wsX7_shortOn wsX7_allBuyersServed := goodIn_r _ [28, 29, 30, 31, 27, 32, 1, 33, 34, 35, 36, 37, 38, 2, 39, 40, 41, 42, 43, 44, 45, 46, 47, 48, 49, 50, 51, 52, 53, 54, 55, 56, 57, 7, 58, 11, 59, 60, 61, 62, 63, 64, 65, 66, 67, 68, 69, 70, 71, 9, 72, 73, 74, 75, 18, 76, 77, 78, 79, 80, 81, 82, 83, 84, 85, 86, 87, 88, 89, 90, 91, 92, 93, 94, 95, 96, 97, 98, 99, 100, 101, 102, 103, 104, 105, 106, 107, 108, 109, 110, 111, 112, 113, 114, 115, 116, 117, 118, 119, 120, 121] (by decide +kernel) (by decide +kernel)
set_option maxRecDepth 20000 in
theorem gX7_shortOn_X7_allBuyersServed : GoodIn wsX7_shortOn (wsV RX7 284 RX7 yX7_allBuyersServed wsX7_allBuyersServed) := goodIn_app (goodIn_of _ (by decide +kernel)) ggX7_shortOn_X7_allBuyersServed
theorem dX7_shortOn_0 : decode cX7_shortOn 0 = .ok (.aload_n 0, 1) := by decide +kernel
theorem dX7_shortOn_1 : decode cX7_shortOn 1 = .ok (.getfield 38, 3) := by decide +kernel
theorem dX7_shortOn_4 : decode cX7_shortOn 4 = .ok (.getfield 100, 3) := by decide +kernel
theorem dX7_shortOn_7 : decode cX7_shortOn 7 = .ok (.ifCond .ne 5, 3) := by decide +kernel
theorem dX7_shortOn_10 : decode cX7_shortOn 10 = .ok (.iconst (-1), 1) := by decide +kernel
theorem dX7_shortOn_11 : decode cX7_shortOn 11 = .ok (.ireturn, 1) := by decide +kernel
theorem dX7_shortOn_12 : decode cX7_shortOn 12 = .ok (.aload_n 0, 1) := by decide +kernel
theorem dX7_shortOn_13 : decode cX7_shortOn 13 = .ok (.getfield 50, 3) := by decide +kernel
theorem dX7_shortOn_16 : decode cX7_shortOn 16 = .ok (.aload_n 0, 1) := by decide +kernel
theorem dX7_shortOn_17 : decode cX7_shortOn 17 = .ok (.getfield 68, 3) := by decide +kernel
theorem dX7_shortOn_20 : decode cX7_shortOn 20 = .ok (.invokevirtual 262, 3) := by decide +kernel
theorem dX7_shortOn_23 : decode cX7_shortOn 23 = .ok (.iconst 1, 1) := by decide +kernel
theorem dX7_shortOn_24 : decode cX7_shortOn 24 = .ok (.istore_n 1, 1) := by decide +kernel
theorem dX7_shortOn_25 : decode cX7_shortOn 25 = .ok (.iload_n 1, 1) := by decide +kernel
theorem dX7_shortOn_26 : decode cX7_shortOn 26 = .ok (.bipush 99, 2) := by decide +kernel
theorem dX7_shortOn_28 : decode cX7_shortOn 28 = .ok (.if_icmp .gt 18, 3) := by decide +kernel
theorem dX7_shortOn_31 : decode cX7_shortOn 31 = .ok (.aload_n 0, 1) := by decide +kernel
theorem dX7_shortOn_32 : decode cX7_shortOn 32 = .ok (.invokevirtual 284, 3) := by decide +kernel
theorem dX7_shortOn_35 : decode cX7_shortOn 35 = .ok (.ifCond .ne 5, 3) := by decide +kernel
theorem dX7_shortOn_38 : decode cX7_shortOn 38 = .ok (.iload_n 1, 1) := by decide +kernel
theorem dX7_shortOn_39 : decode cX7_shortOn 39 = .ok (.ireturn, 1) := by decide +kernel
theorem dX7_shortOn_40 : decode cX7_shortOn 40 = .ok (.iinc 1 1, 3) := by decide +kernel
theorem dX7_shortOn_43 : decode cX7_shortOn 43 = .ok (.goto (-18), 3) := by decide +kernel
theorem dX7_shortOn_46 : decode cX7_shortOn 46 = .ok (.iconst (-1), 1) := by decide +kernel
theorem dX7_shortOn_47 : decode cX7_shortOn 47 = .ok (.ireturn, 1) := by decide +kernel
set_option maxRecDepth 20000 in
theorem ggX7_allBuyersServed_X7_buyersServed : GoodIn wsX7_allBuyersServed wsX7_buyersServed := goodIn_r _ [5, 6, 7, 8, 9, 10, 4, 11, 12, 13, 14, 15, 16, 17, 18, 19, 20, 21, 22, 23, 24, 25, 26, 27, 28, 29, 30, 31, 32, 33, 34, 35, 36, 37, 38, 39, 40, 41, 42, 43, 44, 45, 46, 47, 48, 49, 50, 51, 52, 53, 54, 55, 56, 57, 58, 59, 60, 61, 62, 63, 64, 65, 66, 67, 68, 69, 70, 71, 72, 73, 74, 75, 76, 77, 78, 79, 80, 81, 82, 83, 84, 85, 86, 87, 88, 89, 90, 91, 92, 93, 94, 95, 96, 97, 98, 99, 100] (by decide +kernel) (by decide +kernel)
set_option maxRecDepth 20000 in
theorem gX7_allBuyersServed_X7_buyersServed : GoodIn wsX7_allBuyersServed (wsV RX7 287 RX7 yX7_buyersServed wsX7_buyersServed) := goodIn_app (goodIn_of _ (by decide +kernel)) ggX7_allBuyersServed_X7_buyersServed
theorem dX7_allBuyersServed_0 : decode cX7_allBuyersServed 0 = .ok (.aload_n 0, 1) := by decide +kernel
theorem dX7_allBuyersServed_1 : decode cX7_allBuyersServed 1 = .ok (.sipush 255, 3) := by decide +kernel
theorem dX7_allBuyersServed_4 : decode cX7_allBuyersServed 4 = .ok (.invokevirtual 287, 3) := by decide +kernel
theorem dX7_allBuyersServed_7 : decode cX7_allBuyersServed 7 = .ok (.ireturn, 1) := by decide +kernel
set_option maxRecDepth 20000 in
theorem ggX7_buyersServed_X7_sellToBuyer : GoodIn wsX7_buyersServed wsX7_sellToBuyer := goodIn_r _ [7, 8, 9, 1, 10, 11, 12, 13, 14, 15, 16, 17, 18, 19, 20, 21, 22, 23, 24, 25, 26, 27, 28, 29, 30, 31, 32, 33, 34, 35, 36, 37, 38, 39, 40, 41, 42, 43, 44, 45, 46, 47, 48, 49, 50, 51, 52, 53, 54, 55, 56, 57, 58, 59, 60, 61, 62, 63, 64, 65, 66, 67, 68, 69, 70, 71, 72, 73, 74, 75, 76, 77, 78, 79, 80, 81, 82, 83, 84, 85, 86, 87, 88, 89, 90, 91, 92, 93, 94, 95, 96] (by decide +kernel) (by decide +kernel)
set_option maxRecDepth 20000 in
theorem gX7_buyersServed_X7_sellToBuyer : GoodIn wsX7_buyersServed (wsV RX7 281 RX7 yX7_sellToBuyer wsX7_sellToBuyer) := goodIn_app (goodIn_of _ (by decide +kernel)) ggX7_buyersServed_X7_sellToBuyer
theorem dX7_buyersServed_0 : decode cX7_buyersServed 0 = .ok (.iconst 0, 1) := by decide +kernel
theorem dX7_buyersServed_1 : decode cX7_buyersServed 1 = .ok (.istore_n 2, 1) := by decide +kernel
theorem dX7_buyersServed_2 : decode cX7_buyersServed 2 = .ok (.iload_n 2, 1) := by decide +kernel
theorem dX7_buyersServed_3 : decode cX7_buyersServed 3 = .ok (.aload_n 0, 1) := by decide +kernel
theorem dX7_buyersServed_4 : decode cX7_buyersServed 4 = .ok (.getfield 38, 3) := by decide +kernel
theorem dX7_buyersServed_7 : decode cX7_buyersServed 7 = .ok (.getfield 100, 3) := by decide +kernel
theorem dX7_buyersServed_10 : decode cX7_buyersServed 10 = .ok (.if_icmp .ge 30, 3) := by decide +kernel
theorem dX7_buyersServed_13 : decode cX7_buyersServed 13 = .ok (.iload_n 1, 1) := by decide +kernel
theorem dX7_buyersServed_14 : decode cX7_buyersServed 14 = .ok (.iload_n 2, 1) := by decide +kernel
theorem dX7_buyersServed_15 : decode cX7_buyersServed 15 = .ok (.ishr, 1) := by decide +kernel
theorem dX7_buyersServed_16 : decode cX7_buyersServed 16 = .ok (.iconst 1, 1) := by decide +kernel
theorem dX7_buyersServed_17 : decode cX7_buyersServed 17 = .ok (.iand, 1) := by decide +kernel
theorem dX7_buyersServed_18 : decode cX7_buyersServed 18 = .ok (.iconst 1, 1) := by decide +kernel
theorem dX7_buyersServed_19 : decode cX7_buyersServed 19 = .ok (.if_icmp .ne 15, 3) := by decide +kernel
theorem dX7_buyersServed_22 : decode cX7_buyersServed 22 = .ok (.aload_n 0, 1) := by decide +kernel
theorem dX7_buyersServed_23 : decode cX7_buyersServed 23 = .ok (.iload_n 2, 1) := by decide +kernel
theorem dX7_buyersServed_24 : decode cX7_buyersServed 24 = .ok (.invokevirtual 281, 3) := by decide +kernel
theorem dX7_buyersServed_27 : decode cX7_buyersServed 27 = .ok (.ldc 191, 2) := by decide +kernel
theorem dX7_buyersServed_29 : decode cX7_buyersServed 29 = .ok (.if_icmp .ne 5, 3) := by decide +kernel
theorem dX7_buyersServed_32 : decode cX7_buyersServed 32 = .ok (.iconst 0, 1) := by decide +kernel
theorem dX7_buyersServed_33 : decode cX7_buyersServed 33 = .ok (.ireturn, 1) := by decide +kernel
theorem dX7_buyersServed_34 : decode cX7_buyersServed 34 = .ok (.iinc 2 1, 3) := by decide +kernel
theorem dX7_buyersServed_37 : decode cX7_buyersServed 37 = .ok (.goto (-35), 3) := by decide +kernel
theorem dX7_buyersServed_40 : decode cX7_buyersServed 40 = .ok (.iconst 1, 1) := by decide +kernel
theorem dX7_buyersServed_41 : decode cX7_buyersServed 41 = .ok (.ireturn, 1) := by decide +kernel
set_option maxRecDepth 20000 in
theorem ggX7_night_X4_copyFrom : GoodIn wsX7_night wsX4_copyFrom := goodIn_r _ [12, 13, 14, 15, 16, 17, 18, 19, 20, 21, 22, 23, 24, 25, 26, 27, 101, 102, 103, 104, 105, 106, 107, 108, 109, 110, 111, 112, 113, 114, 115] (by decide +kernel) (by decide +kernel)
set_option maxRecDepth 20000 in
theorem gX7_night_X4_copyFrom : GoodIn wsX7_night (wsV RX7 262 RX4 yX4_copyFrom wsX4_copyFrom) := goodIn_app (goodIn_of _ (by decide +kernel)) ggX7_night_X4_copyFrom
set_option maxRecDepth 20000 in
theorem ggX7_night_X7_buyersServed : GoodIn wsX7_night wsX7_buyersServed := goodIn_r _ [32, 4, 3, 33, 34, 35, 31, 36, 37, 5, 38, 39, 40, 41, 42, 43, 44, 45, 46, 47, 48, 49, 50, 51, 52, 53, 54, 55, 56, 11, 57, 15, 58, 59, 60, 61, 62, 63, 64, 65, 66, 67, 68, 69, 70, 13, 71, 72, 73, 74, 22, 75, 76, 77, 78, 79, 80, 81, 86, 87, 88, 89, 90, 91, 92, 93, 94, 95, 96, 97, 98, 99, 100, 101, 102, 103, 104, 105, 106, 107, 108, 109, 110, 111, 112, 113, 114, 115, 116, 117, 118, 119, 120, 121, 122, 123, 124] (by decide +kernel) (by decide +kernel)
set_option maxRecDepth 20000 in
theorem gX7_night_X7_buyersServed : GoodIn wsX7_night (wsV RX7 287 RX7 yX7_buyersServed wsX7_buyersServed) := goodIn_app (goodIn_of _ (by decide +kernel)) ggX7_night_X7_buyersServed
set_option maxRecDepth 20000 in
theorem ggX7_night_X4_holdsLike : GoodIn wsX7_night wsX4_holdsLike := goodIn_r _ [85, 13, 14, 22, 23, 101, 102, 103, 104, 105, 106, 107, 108, 109, 110, 111, 112, 113, 114, 115] (by decide +kernel) (by decide +kernel)
set_option maxRecDepth 20000 in
theorem gX7_night_X4_holdsLike : GoodIn wsX7_night (wsV RX7 290 RX4 yX4_holdsLike wsX4_holdsLike) := goodIn_app (goodIn_of _ (by decide +kernel)) ggX7_night_X4_holdsLike
theorem dX7_night_0 : decode cX7_night 0 = .ok (.iload_n 1, 1) := by decide +kernel
theorem dX7_night_1 : decode cX7_night 1 = .ok (.ifCond .eq 11, 3) := by decide +kernel
theorem dX7_night_4 : decode cX7_night 4 = .ok (.iload_n 1, 1) := by decide +kernel
theorem dX7_night_5 : decode cX7_night 5 = .ok (.iconst 1, 1) := by decide +kernel
theorem dX7_night_6 : decode cX7_night 6 = .ok (.if_icmp .eq 6, 3) := by decide +kernel
theorem dX7_night_9 : decode cX7_night 9 = .ok (.ldc 75, 2) := by decide +kernel
theorem dX7_night_11 : decode cX7_night 11 = .ok (.ireturn, 1) := by decide +kernel
theorem dX7_night_12 : decode cX7_night 12 = .ok (.aload_n 0, 1) := by decide +kernel
theorem dX7_night_13 : decode cX7_night 13 = .ok (.getfield 31, 3) := by decide +kernel
theorem dX7_night_16 : decode cX7_night 16 = .ok (.iconst 0, 1) := by decide +kernel
theorem dX7_night_17 : decode cX7_night 17 = .ok (.baload, 1) := by decide +kernel
theorem dX7_night_18 : decode cX7_night 18 = .ok (.ifCond .ne 6, 3) := by decide +kernel
theorem dX7_night_21 : decode cX7_night 21 = .ok (.ldc 191, 2) := by decide +kernel
theorem dX7_night_23 : decode cX7_night 23 = .ok (.ireturn, 1) := by decide +kernel
theorem dX7_night_24 : decode cX7_night 24 = .ok (.iconst 0, 1) := by decide +kernel
theorem dX7_night_25 : decode cX7_night 25 = .ok (.istore_n 2, 1) := by decide +kernel
theorem dX7_night_26 : decode cX7_night 26 = .ok (.iconst 1, 1) := by decide +kernel
theorem dX7_night_27 : decode cX7_night 27 = .ok (.aload_n 0, 1) := by decide +kernel
theorem dX7_night_28 : decode cX7_night 28 = .ok (.getfield 38, 3) := by decide +kernel
theorem dX7_night_31 : decode cX7_night 31 = .ok (.getfield 100, 3) := by decide +kernel
theorem dX7_night_34 : decode cX7_night 34 = .ok (.ishl, 1) := by decide +kernel
theorem dX7_night_35 : decode cX7_night 35 = .ok (.iconst 1, 1) := by decide +kernel
theorem dX7_night_36 : decode cX7_night 36 = .ok (.isub, 1) := by decide +kernel
theorem dX7_night_37 : decode cX7_night 37 = .ok (.istore_n 3, 1) := by decide +kernel
theorem dX7_night_38 : decode cX7_night 38 = .ok (.iconst 0, 1) := by decide +kernel
theorem dX7_night_39 : decode cX7_night 39 = .ok (.istore 4, 2) := by decide +kernel
theorem dX7_night_41 : decode cX7_night 41 = .ok (.iload 4, 2) := by decide +kernel
theorem dX7_night_43 : decode cX7_night 43 = .ok (.iconst 1, 1) := by decide +kernel
theorem dX7_night_44 : decode cX7_night 44 = .ok (.aload_n 0, 1) := by decide +kernel
theorem dX7_night_45 : decode cX7_night 45 = .ok (.getfield 38, 3) := by decide +kernel
theorem dX7_night_48 : decode cX7_night 48 = .ok (.getfield 100, 3) := by decide +kernel
theorem dX7_night_51 : decode cX7_night 51 = .ok (.ishl, 1) := by decide +kernel
theorem dX7_night_52 : decode cX7_night 52 = .ok (.if_icmp .ge 53, 3) := by decide +kernel
theorem dX7_night_55 : decode cX7_night 55 = .ok (.aload_n 0, 1) := by decide +kernel
theorem dX7_night_56 : decode cX7_night 56 = .ok (.getfield 50, 3) := by decide +kernel
theorem dX7_night_59 : decode cX7_night 59 = .ok (.aload_n 0, 1) := by decide +kernel
theorem dX7_night_60 : decode cX7_night 60 = .ok (.getfield 27, 3) := by decide +kernel
theorem dX7_night_63 : decode cX7_night 63 = .ok (.iconst 0, 1) := by decide +kernel
theorem dX7_night_64 : decode cX7_night 64 = .ok (.aaload, 1) := by decide +kernel
theorem dX7_night_65 : decode cX7_night 65 = .ok (.invokevirtual 262, 3) := by decide +kernel
theorem dX7_night_68 : decode cX7_night 68 = .ok (.aload_n 0, 1) := by decide +kernel
theorem dX7_night_69 : decode cX7_night 69 = .ok (.iload 4, 2) := by decide +kernel
theorem dX7_night_71 : decode cX7_night 71 = .ok (.invokevirtual 287, 3) := by decide +kernel
theorem dX7_night_74 : decode cX7_night 74 = .ok (.ifCond .eq 25, 3) := by decide +kernel
theorem dX7_night_77 : decode cX7_night 77 = .ok (.aload_n 0, 1) := by decide +kernel
theorem dX7_night_78 : decode cX7_night 78 = .ok (.getfield 50, 3) := by decide +kernel
theorem dX7_night_81 : decode cX7_night 81 = .ok (.aload_n 0, 1) := by decide +kernel
theorem dX7_night_82 : decode cX7_night 82 = .ok (.getfield 68, 3) := by decide +kernel
theorem dX7_night_85 : decode cX7_night 85 = .ok (.invokevirtual 290, 3) := by decide +kernel
theorem dX7_night_88 : decode cX7_night 88 = .ok (.ifCond .eq 11, 3) := by decide +kernel
theorem dX7_night_91 : decode cX7_night 91 = .ok (.iinc 2 1, 3) := by decide +kernel
theorem dX7_night_94 : decode cX7_night 94 = .ok (.iload_n 3, 1) := by decide +kernel
theorem dX7_night_95 : decode cX7_night 95 = .ok (.iload 4, 2) := by decide +kernel
theorem dX7_night_97 : decode cX7_night 97 = .ok (.iand, 1) := by decide +kernel
theorem dX7_night_98 : decode cX7_night 98 = .ok (.istore_n 3, 1) := by decide +kernel
theorem dX7_night_99 : decode cX7_night 99 = .ok (.iinc 4 1, 3) := by decide +kernel
theorem dX7_night_102 : decode cX7_night 102 = .ok (.goto (-61), 3) := by decide +kernel
theorem dX7_night_105 : decode cX7_night 105 = .ok (.iload_n 1, 1) := by decide +kernel
theorem dX7_night_106 : decode cX7_night 106 = .ok (.ifCond .ne 5, 3) := by decide +kernel
theorem dX7_night_109 : decode cX7_night 109 = .ok (.iload_n 2, 1) := by decide +kernel
theorem dX7_night_110 : decode cX7_night 110 = .ok (.ireturn, 1) := by decide +kernel
theorem dX7_night_111 : decode cX7_night 111 = .ok (.iload_n 2, 1) := by decide +kernel
theorem dX7_night_112 : decode cX7_night 112 = .ok (.ifCond .ne 7, 3) := by decide +kernel
theorem dX7_night_115 : decode cX7_night 115 = .ok (.iconst 0, 1) := by decide +kernel
theorem dX7_night_116 : decode cX7_night 116 = .ok (.goto 4, 3) := by decide +kernel
theorem dX7_night_119 : decode cX7_night 119 = .ok (.iload_n 3, 1) := by decide +kernel
theorem dX7_night_120 : decode cX7_night 120 = .ok (.ireturn, 1) := by decide +kernel
set_option maxRecDepth 20000 in
theorem ggX7_best_X7_rankOfBestSpan : GoodIn wsX7_best wsX7_rankOfBestSpan := goodIn_r _ [7, 8, 9, 10, 11, 2, 12, 13, 14, 15, 6, 16, 17, 18, 19, 20, 21, 22, 23, 24, 25, 26, 27, 28, 29, 30, 31, 32, 33, 34, 35, 36, 37, 38, 39, 40, 41, 42, 43, 44, 45, 46, 47, 48, 49, 50, 51, 52, 53, 54, 55, 56, 57, 58, 59, 60, 61, 62, 63, 64, 65, 66, 67, 68, 69, 70, 71, 72, 73, 74, 75, 76] (by decide +kernel) (by decide +kernel)
set_option maxRecDepth 20000 in
theorem gX7_best_X7_rankOfBestSpan : GoodIn wsX7_best (wsV RX7 294 RX7 yX7_rankOfBestSpan wsX7_rankOfBestSpan) := goodIn_app (goodIn_of _ (by decide +kernel)) ggX7_best_X7_rankOfBestSpan
theorem dX7_best_0 : decode cX7_best 0 = .ok (.iload_n 1, 1) := by decide +kernel
theorem dX7_best_1 : decode cX7_best 1 = .ok (.ifCond .lt 8, 3) := by decide +kernel
theorem dX7_best_4 : decode cX7_best 4 = .ok (.iload_n 1, 1) := by decide +kernel
theorem dX7_best_5 : decode cX7_best 5 = .ok (.iconst 2, 1) := by decide +kernel
theorem dX7_best_6 : decode cX7_best 6 = .ok (.if_icmp .le 6, 3) := by decide +kernel
theorem dX7_best_9 : decode cX7_best 9 = .ok (.ldc 75, 2) := by decide +kernel
theorem dX7_best_11 : decode cX7_best 11 = .ok (.ireturn, 1) := by decide +kernel
theorem dX7_best_12 : decode cX7_best 12 = .ok (.aload_n 0, 1) := by decide +kernel
theorem dX7_best_13 : decode cX7_best 13 = .ok (.getfield 64, 3) := by decide +kernel
theorem dX7_best_16 : decode cX7_best 16 = .ok (.getfield 108, 3) := by decide +kernel
theorem dX7_best_19 : decode cX7_best 19 = .ok (.ifCond .ne 7, 3) := by decide +kernel
theorem dX7_best_22 : decode cX7_best 22 = .ok (.iconst (-1), 1) := by decide +kernel
theorem dX7_best_23 : decode cX7_best 23 = .ok (.goto 7, 3) := by decide +kernel
theorem dX7_best_26 : decode cX7_best 26 = .ok (.aload_n 0, 1) := by decide +kernel
theorem dX7_best_27 : decode cX7_best 27 = .ok (.invokevirtual 294, 3) := by decide +kernel
theorem dX7_best_30 : decode cX7_best 30 = .ok (.istore_n 2, 1) := by decide +kernel
theorem dX7_best_31 : decode cX7_best 31 = .ok (.iload_n 2, 1) := by decide +kernel
theorem dX7_best_32 : decode cX7_best 32 = .ok (.iconst (-1), 1) := by decide +kernel
theorem dX7_best_33 : decode cX7_best 33 = .ok (.if_icmp .ne 5, 3) := by decide +kernel
theorem dX7_best_36 : decode cX7_best 36 = .ok (.iconst (-1), 1) := by decide +kernel
