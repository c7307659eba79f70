theorem dX8_fill_18 : decode cX8_fill 18 = .ok (.bipush 6, 2) := by decide +kernel
theorem dX8_fill_20 : decode cX8_fill 20 = .ok (.istore_n 3, 1) := by decide +kernel
theorem dX8_fill_21 : decode cX8_fill 21 = .ok (.iconst 0, 1) := by decide +kernel
theorem dX8_fill_22 : decode cX8_fill 22 = .ok (.istore 4, 2) := by decide +kernel
theorem dX8_fill_24 : decode cX8_fill 24 = .ok (.iload 4, 2) := by decide +kernel
theorem dX8_fill_26 : decode cX8_fill 26 = .ok (.aload_n 0, 1) := by decide +kernel
theorem dX8_fill_27 : decode cX8_fill 27 = .ok (.invokevirtual 254, 3) := by decide +kernel
theorem dX8_fill_30 : decode cX8_fill 30 = .ok (.if_icmp .ge 36, 3) := by decide +kernel
theorem dX8_fill_33 : decode cX8_fill 33 = .ok (.aload_n 0, 1) := by decide +kernel
theorem dX8_fill_34 : decode cX8_fill 34 = .ok (.iload 4, 2) := by decide +kernel
theorem dX8_fill_36 : decode cX8_fill 36 = .ok (.invokevirtual 257, 3) := by decide +kernel
theorem dX8_fill_39 : decode cX8_fill 39 = .ok (.istore 5, 2) := by decide +kernel
theorem dX8_fill_41 : decode cX8_fill 41 = .ok (.iload 5, 2) := by decide +kernel
theorem dX8_fill_43 : decode cX8_fill 43 = .ok (.iload_n 3, 1) := by decide +kernel
theorem dX8_fill_44 : decode cX8_fill 44 = .ok (.if_icmp .ge 16, 3) := by decide +kernel
theorem dX8_fill_47 : decode cX8_fill 47 = .ok (.aload_n 0, 1) := by decide +kernel
theorem dX8_fill_48 : decode cX8_fill 48 = .ok (.invokevirtual 266, 3) := by decide +kernel
theorem dX8_fill_51 : decode cX8_fill 51 = .ok (.ifCond .eq 9, 3) := by decide +kernel
theorem dX8_fill_54 : decode cX8_fill 54 = .ok (.iload 4, 2) := by decide +kernel
theorem dX8_fill_56 : decode cX8_fill 56 = .ok (.istore_n 2, 1) := by decide +kernel
theorem dX8_fill_57 : decode cX8_fill 57 = .ok (.iload 5, 2) := by decide +kernel
theorem dX8_fill_59 : decode cX8_fill 59 = .ok (.istore_n 3, 1) := by decide +kernel
theorem dX8_fill_60 : decode cX8_fill 60 = .ok (.iinc 4 1, 3) := by decide +kernel
theorem dX8_fill_63 : decode cX8_fill 63 = .ok (.goto (-39), 3) := by decide +kernel
theorem dX8_fill_66 : decode cX8_fill 66 = .ok (.iload_n 2, 1) := by decide +kernel
theorem dX8_fill_67 : decode cX8_fill 67 = .ok (.ifCond .ge 5, 3) := by decide +kernel
theorem dX8_fill_70 : decode cX8_fill 70 = .ok (.iconst (-1), 1) := by decide +kernel
theorem dX8_fill_71 : decode cX8_fill 71 = .ok (.ireturn, 1) := by decide +kernel
theorem dX8_fill_72 : decode cX8_fill 72 = .ok (.aload_n 0, 1) := by decide +kernel
theorem dX8_fill_73 : decode cX8_fill 73 = .ok (.iload_n 2, 1) := by decide +kernel
theorem dX8_fill_74 : decode cX8_fill 74 = .ok (.invokevirtual 257, 3) := by decide +kernel
theorem dX8_fill_77 : decode cX8_fill 77 = .ok (.istore_n 3, 1) := by decide +kernel
theorem dX8_fill_78 : decode cX8_fill 78 = .ok (.iload_n 1, 1) := by decide +kernel
theorem dX8_fill_79 : decode cX8_fill 79 = .ok (.ifCond .ge 7, 3) := by decide +kernel
theorem dX8_fill_82 : decode cX8_fill 82 = .ok (.iload_n 3, 1) := by decide +kernel
theorem dX8_fill_83 : decode cX8_fill 83 = .ok (.goto 9, 3) := by decide +kernel
theorem dX8_fill_86 : decode cX8_fill 86 = .ok (.aload_n 0, 1) := by decide +kernel
theorem dX8_fill_87 : decode cX8_fill 87 = .ok (.getfield 54, 3) := by decide +kernel
theorem dX8_fill_90 : decode cX8_fill 90 = .ok (.iload_n 1, 1) := by decide +kernel
theorem dX8_fill_91 : decode cX8_fill 91 = .ok (.iaload, 1) := by decide +kernel
theorem dX8_fill_92 : decode cX8_fill 92 = .ok (.ireturn, 1) := by decide +kernel
set_option maxRecDepth 20000 in
theorem ggX8_shortOn_X8_copy : GoodIn wsX8_shortOn wsX8_copy := goodIn_r _ [5, 6, 57, 58, 59, 60, 61, 62, 63, 64, 65, 66, 67, 68, 69, 70, 71, 72, 73, 74, 75, 76, 77, 78, 79, 80, 81, 82, 83, 84, 85, 86, 87, 88, 89, 90, 91] (by decide +kernel) (by decide +kernel)
set_option maxRecDepth 20000 in
theorem gX8_shortOn_X8_copy : GoodIn wsX8_shortOn (wsV RX8 250 RX8 yX8_copy wsX8_copy) := goodIn_app (goodIn_of _ (by decide +kernel)) ggX8_shortOn_X8_copy
set_option maxRecDepth 20000 in
theorem ggX8_shortOn_X8_come : GoodIn wsX8_shortOn wsX8_come := goodIn_r _ [10, 11, 12, 13, 14, 15, 16, 4, 17, 18, 19, 20, 21, 6, 22, 23, 24, 25, 26, 27, 28, 29, 30, 31, 32, 33, 34, 35, 36, 37, 38, 39, 40, 41, 42, 43, 44, 45, 46, 47, 48, 49, 50, 51, 52, 53, 54, 55, 56, 57, 58, 59, 60, 61, 62, 63, 64, 65, 66, 67, 68, 69, 70, 71, 72, 73, 74, 75, 76, 77, 78, 79, 80, 81, 82, 83, 84, 85, 86, 87, 88, 89, 90, 91] (by decide +kernel) (by decide +kernel)
set_option maxRecDepth 20000 in
theorem gX8_shortOn_X8_come : GoodIn wsX8_shortOn (wsV RX8 263 RX8 yX8_come wsX8_come) := goodIn_app (goodIn_of _ (by decide +kernel)) ggX8_shortOn_X8_come
theorem dX8_shortOn_0 : decode cX8_shortOn 0 = .ok (.aload_n 0, 1) := by decide +kernel
theorem dX8_shortOn_1 : decode cX8_shortOn 1 = .ok (.iconst 0, 1) := by decide +kernel
theorem dX8_shortOn_2 : decode cX8_shortOn 2 = .ok (.bipush 60, 2) := by decide +kernel
theorem dX8_shortOn_4 : decode cX8_shortOn 4 = .ok (.invokevirtual 250, 3) := by decide +kernel
theorem dX8_shortOn_7 : decode cX8_shortOn 7 = .ok (.iconst 1, 1) := by decide +kernel
theorem dX8_shortOn_8 : decode cX8_shortOn 8 = .ok (.istore_n 1, 1) := by decide +kernel
theorem dX8_shortOn_9 : decode cX8_shortOn 9 = .ok (.iload_n 1, 1) := by decide +kernel
theorem dX8_shortOn_10 : decode cX8_shortOn 10 = .ok (.bipush 99, 2) := by decide +kernel
theorem dX8_shortOn_12 : decode cX8_shortOn 12 = .ok (.if_icmp .gt 21, 3) := by decide +kernel
theorem dX8_shortOn_15 : decode cX8_shortOn 15 = .ok (.aload_n 0, 1) := by decide +kernel
theorem dX8_shortOn_16 : decode cX8_shortOn 16 = .ok (.sipush 255, 3) := by decide +kernel
theorem dX8_shortOn_19 : decode cX8_shortOn 19 = .ok (.invokevirtual 263, 3) := by decide +kernel
theorem dX8_shortOn_22 : decode cX8_shortOn 22 = .ok (.ifCond .ge 5, 3) := by decide +kernel
theorem dX8_shortOn_25 : decode cX8_shortOn 25 = .ok (.iload_n 1, 1) := by decide +kernel
theorem dX8_shortOn_26 : decode cX8_shortOn 26 = .ok (.ireturn, 1) := by decide +kernel
theorem dX8_shortOn_27 : decode cX8_shortOn 27 = .ok (.iinc 1 1, 3) := by decide +kernel
theorem dX8_shortOn_30 : decode cX8_shortOn 30 = .ok (.goto (-21), 3) := by decide +kernel
theorem dX8_shortOn_33 : decode cX8_shortOn 33 = .ok (.iconst (-1), 1) := by decide +kernel
theorem dX8_shortOn_34 : decode cX8_shortOn 34 = .ok (.ireturn, 1) := by decide +kernel
theorem dX8_isAsNow_0 : decode cX8_isAsNow 0 = .ok (.aload_n 0, 1) := by decide +kernel
theorem dX8_isAsNow_1 : decode cX8_isAsNow 1 = .ok (.getfield 7, 3) := by decide +kernel
theorem dX8_isAsNow_4 : decode cX8_isAsNow 4 = .ok (.bipush 45, 2) := by decide +kernel
theorem dX8_isAsNow_6 : decode cX8_isAsNow 6 = .ok (.iaload, 1) := by decide +kernel
theorem dX8_isAsNow_7 : decode cX8_isAsNow 7 = .ok (.aload_n 0, 1) := by decide +kernel
theorem dX8_isAsNow_8 : decode cX8_isAsNow 8 = .ok (.getfield 7, 3) := by decide +kernel
theorem dX8_isAsNow_11 : decode cX8_isAsNow 11 = .ok (.bipush 105, 2) := by decide +kernel
theorem dX8_isAsNow_13 : decode cX8_isAsNow 13 = .ok (.iaload, 1) := by decide +kernel
theorem dX8_isAsNow_14 : decode cX8_isAsNow 14 = .ok (.if_icmp .ne 24, 3) := by decide +kernel
theorem dX8_isAsNow_17 : decode cX8_isAsNow 17 = .ok (.aload_n 0, 1) := by decide +kernel
theorem dX8_isAsNow_18 : decode cX8_isAsNow 18 = .ok (.getfield 7, 3) := by decide +kernel
theorem dX8_isAsNow_21 : decode cX8_isAsNow 21 = .ok (.bipush 46, 2) := by decide +kernel
theorem dX8_isAsNow_23 : decode cX8_isAsNow 23 = .ok (.iaload, 1) := by decide +kernel
theorem dX8_isAsNow_24 : decode cX8_isAsNow 24 = .ok (.aload_n 0, 1) := by decide +kernel
theorem dX8_isAsNow_25 : decode cX8_isAsNow 25 = .ok (.getfield 7, 3) := by decide +kernel
theorem dX8_isAsNow_28 : decode cX8_isAsNow 28 = .ok (.bipush 106, 2) := by decide +kernel
theorem dX8_isAsNow_30 : decode cX8_isAsNow 30 = .ok (.iaload, 1) := by decide +kernel
theorem dX8_isAsNow_31 : decode cX8_isAsNow 31 = .ok (.if_icmp .ne 7, 3) := by decide +kernel
theorem dX8_isAsNow_34 : decode cX8_isAsNow 34 = .ok (.iconst 1, 1) := by decide +kernel
theorem dX8_isAsNow_35 : decode cX8_isAsNow 35 = .ok (.goto 4, 3) := by decide +kernel
theorem dX8_isAsNow_38 : decode cX8_isAsNow 38 = .ok (.iconst 0, 1) := by decide +kernel
theorem dX8_isAsNow_39 : decode cX8_isAsNow 39 = .ok (.istore_n 1, 1) := by decide +kernel
theorem dX8_isAsNow_40 : decode cX8_isAsNow 40 = .ok (.iconst 0, 1) := by decide +kernel
theorem dX8_isAsNow_41 : decode cX8_isAsNow 41 = .ok (.istore_n 2, 1) := by decide +kernel
theorem dX8_isAsNow_42 : decode cX8_isAsNow 42 = .ok (.iload_n 2, 1) := by decide +kernel
theorem dX8_isAsNow_43 : decode cX8_isAsNow 43 = .ok (.bipush 10, 2) := by decide +kernel
theorem dX8_isAsNow_45 : decode cX8_isAsNow 45 = .ok (.if_icmp .ge 37, 3) := by decide +kernel
theorem dX8_isAsNow_48 : decode cX8_isAsNow 48 = .ok (.iload_n 1, 1) := by decide +kernel
theorem dX8_isAsNow_49 : decode cX8_isAsNow 49 = .ok (.ifCond .eq 25, 3) := by decide +kernel
theorem dX8_isAsNow_52 : decode cX8_isAsNow 52 = .ok (.aload_n 0, 1) := by decide +kernel
theorem dX8_isAsNow_53 : decode cX8_isAsNow 53 = .ok (.getfield 7, 3) := by decide +kernel
theorem dX8_isAsNow_56 : decode cX8_isAsNow 56 = .ok (.iload_n 2, 1) := by decide +kernel
theorem dX8_isAsNow_57 : decode cX8_isAsNow 57 = .ok (.iaload, 1) := by decide +kernel
theorem dX8_isAsNow_58 : decode cX8_isAsNow 58 = .ok (.aload_n 0, 1) := by decide +kernel
theorem dX8_isAsNow_59 : decode cX8_isAsNow 59 = .ok (.getfield 7, 3) := by decide +kernel
theorem dX8_isAsNow_62 : decode cX8_isAsNow 62 = .ok (.bipush 60, 2) := by decide +kernel
theorem dX8_isAsNow_64 : decode cX8_isAsNow 64 = .ok (.iload_n 2, 1) := by decide +kernel
theorem dX8_isAsNow_65 : decode cX8_isAsNow 65 = .ok (.iadd, 1) := by decide +kernel
theorem dX8_isAsNow_66 : decode cX8_isAsNow 66 = .ok (.iaload, 1) := by decide +kernel
theorem dX8_isAsNow_67 : decode cX8_isAsNow 67 = .ok (.if_icmp .ne 7, 3) := by decide +kernel
theorem dX8_isAsNow_70 : decode cX8_isAsNow 70 = .ok (.iconst 1, 1) := by decide +kernel
theorem dX8_isAsNow_71 : decode cX8_isAsNow 71 = .ok (.goto 4, 3) := by decide +kernel
theorem dX8_isAsNow_74 : decode cX8_isAsNow 74 = .ok (.iconst 0, 1) := by decide +kernel
theorem dX8_isAsNow_75 : decode cX8_isAsNow 75 = .ok (.istore_n 1, 1) := by decide +kernel
theorem dX8_isAsNow_76 : decode cX8_isAsNow 76 = .ok (.iinc 2 1, 3) := by decide +kernel
theorem dX8_isAsNow_79 : decode cX8_isAsNow 79 = .ok (.goto (-37), 3) := by decide +kernel
theorem dX8_isAsNow_82 : decode cX8_isAsNow 82 = .ok (.iload_n 1, 1) := by decide +kernel
theorem dX8_isAsNow_83 : decode cX8_isAsNow 83 = .ok (.ireturn, 1) := by decide +kernel
set_option maxRecDepth 20000 in
theorem ggX8_night_X8_in : GoodIn wsX8_night wsX8_in := goodIn_r _ [8] (by decide +kernel) (by decide +kernel)
set_option maxRecDepth 20000 in
theorem gX8_night_X8_in : GoodIn wsX8_night (va_wsS RX8 77 yX8_in wsX8_in) := goodIn_app (goodIn_of _ (by decide +kernel)) ggX8_night_X8_in
set_option maxRecDepth 20000 in
theorem ggX8_night_X8_copy : GoodIn wsX8_night wsX8_copy := goodIn_r _ [12, 13, 64, 65, 66, 67, 68, 69, 70, 71, 72, 73, 74, 75, 76, 77, 78, 79, 80, 81, 82, 83, 84, 85, 86, 87, 88, 89, 90, 91, 92, 93, 94, 95, 96, 97, 98] (by decide +kernel) (by decide +kernel)
set_option maxRecDepth 20000 in
theorem gX8_night_X8_copy : GoodIn wsX8_night (wsV RX8 250 RX8 yX8_copy wsX8_copy) := goodIn_app (goodIn_of _ (by decide +kernel)) ggX8_night_X8_copy
set_option maxRecDepth 20000 in
theorem ggX8_night_X8_come : GoodIn wsX8_night wsX8_come := goodIn_r _ [17, 4, 18, 19, 20, 21, 22, 7, 23, 24, 25, 26, 27, 13, 28, 29, 30, 31, 32, 33, 34, 35, 36, 37, 5, 6, 8, 38, 39, 40, 41, 42, 43, 44, 45, 46, 47, 48, 49, 50, 51, 52, 53, 54, 55, 56, 57, 58, 59, 64, 65, 66, 67, 68, 69, 70, 71, 72, 73, 74, 75, 76, 77, 78, 79, 80, 81, 82, 83, 84, 85, 86, 87, 88, 89, 90, 91, 92, 93, 94, 95, 96, 97, 98] (by decide +kernel) (by decide +kernel)
set_option maxRecDepth 20000 in
theorem gX8_night_X8_come : GoodIn wsX8_night (wsV RX8 263 RX8 yX8_come wsX8_come) := goodIn_app (goodIn_of _ (by decide +kernel)) ggX8_night_X8_come
set_option maxRecDepth 20000 in
theorem ggX8_night_X8_isAsNow : GoodIn wsX8_night wsX8_isAsNow := goodIn_r _ [63, 13, 64, 65, 66, 67, 68, 69, 70, 71, 72, 73, 74, 75, 76, 77, 78, 79, 80, 81, 82, 83, 84, 85, 86, 87, 88, 89, 90, 91, 92, 93, 94, 95, 96, 97, 98] (by decide +kernel) (by decide +kernel)
set_option maxRecDepth 20000 in
theorem gX8_night_X8_isAsNow : GoodIn wsX8_night (wsV RX8 269 RX8 yX8_isAsNow wsX8_isAsNow) := goodIn_app (goodIn_of _ (by decide +kernel)) ggX8_night_X8_isAsNow
theorem dX8_night_0 : decode cX8_night 0 = .ok (.iload_n 1, 1) := by decide +kernel
theorem dX8_night_1 : decode cX8_night 1 = .ok (.i2l, 1) := by decide +kernel
theorem dX8_night_2 : decode cX8_night 2 = .ok (.lconst 0, 1) := by decide +kernel
theorem dX8_night_3 : decode cX8_night 3 = .ok (.lconst 1, 1) := by decide +kernel
theorem dX8_night_4 : decode cX8_night 4 = .ok (.invokestatic 77, 3) := by decide +kernel
theorem dX8_night_7 : decode cX8_night 7 = .ok (.ifCond .ne 6, 3) := by decide +kernel
theorem dX8_night_10 : decode cX8_night 10 = .ok (.ldc 81, 2) := by decide +kernel
theorem dX8_night_12 : decode cX8_night 12 = .ok (.ireturn, 1) := by decide +kernel
theorem dX8_night_13 : decode cX8_night 13 = .ok (.aload_n 0, 1) := by decide +kernel
theorem dX8_night_14 : decode cX8_night 14 = .ok (.getfield 13, 3) := by decide +kernel
theorem dX8_night_17 : decode cX8_night 17 = .ok (.iconst 0, 1) := by decide +kernel
theorem dX8_night_18 : decode cX8_night 18 = .ok (.baload, 1) := by decide +kernel
theorem dX8_night_19 : decode cX8_night 19 = .ok (.ifCond .ne 6, 3) := by decide +kernel
theorem dX8_night_22 : decode cX8_night 22 = .ok (.ldc 228, 2) := by decide +kernel
theorem dX8_night_24 : decode cX8_night 24 = .ok (.ireturn, 1) := by decide +kernel
theorem dX8_night_25 : decode cX8_night 25 = .ok (.iconst 0, 1) := by decide +kernel
theorem dX8_night_26 : decode cX8_night 26 = .ok (.istore_n 2, 1) := by decide +kernel
theorem dX8_night_27 : decode cX8_night 27 = .ok (.iconst (-1), 1) := by decide +kernel
theorem dX8_night_28 : decode cX8_night 28 = .ok (.istore_n 3, 1) := by decide +kernel
theorem dX8_night_29 : decode cX8_night 29 = .ok (.iconst 0, 1) := by decide +kernel
theorem dX8_night_30 : decode cX8_night 30 = .ok (.istore 4, 2) := by decide +kernel
theorem dX8_night_32 : decode cX8_night 32 = .ok (.iload 4, 2) := by decide +kernel
theorem dX8_night_34 : decode cX8_night 34 = .ok (.iconst 1, 1) := by decide +kernel
theorem dX8_night_35 : decode cX8_night 35 = .ok (.aload_n 0, 1) := by decide +kernel
theorem dX8_night_36 : decode cX8_night 36 = .ok (.getfield 173, 3) := by decide +kernel
theorem dX8_night_39 : decode cX8_night 39 = .ok (.ishl, 1) := by decide +kernel
theorem dX8_night_40 : decode cX8_night 40 = .ok (.if_icmp .ge 41, 3) := by decide +kernel
theorem dX8_night_43 : decode cX8_night 43 = .ok (.aload_n 0, 1) := by decide +kernel
theorem dX8_night_44 : decode cX8_night 44 = .ok (.bipush 120, 2) := by decide +kernel
theorem dX8_night_46 : decode cX8_night 46 = .ok (.bipush 60, 2) := by decide +kernel
theorem dX8_night_48 : decode cX8_night 48 = .ok (.invokevirtual 250, 3) := by decide +kernel
theorem dX8_night_51 : decode cX8_night 51 = .ok (.aload_n 0, 1) := by decide +kernel
theorem dX8_night_52 : decode cX8_night 52 = .ok (.iload 4, 2) := by decide +kernel
theorem dX8_night_54 : decode cX8_night 54 = .ok (.invokevirtual 263, 3) := by decide +kernel
theorem dX8_night_57 : decode cX8_night 57 = .ok (.ifCond .lt 18, 3) := by decide +kernel
theorem dX8_night_60 : decode cX8_night 60 = .ok (.aload_n 0, 1) := by decide +kernel
theorem dX8_night_61 : decode cX8_night 61 = .ok (.invokevirtual 269, 3) := by decide +kernel
theorem dX8_night_64 : decode cX8_night 64 = .ok (.ifCond .eq 11, 3) := by decide +kernel
theorem dX8_night_67 : decode cX8_night 67 = .ok (.iinc 2 1, 3) := by decide +kernel
theorem dX8_night_70 : decode cX8_night 70 = .ok (.iload_n 3, 1) := by decide +kernel
theorem dX8_night_71 : decode cX8_night 71 = .ok (.iload 4, 2) := by decide +kernel
theorem dX8_night_73 : decode cX8_night 73 = .ok (.iand, 1) := by decide +kernel
theorem dX8_night_74 : decode cX8_night 74 = .ok (.istore_n 3, 1) := by decide +kernel
theorem dX8_night_75 : decode cX8_night 75 = .ok (.iinc 4 1, 3) := by decide +kernel
theorem dX8_night_78 : decode cX8_night 78 = .ok (.goto (-46), 3) := by decide +kernel
theorem dX8_night_81 : decode cX8_night 81 = .ok (.iload_n 1, 1) := by decide +kernel
theorem dX8_night_82 : decode cX8_night 82 = .ok (.ifCond .ne 7, 3) := by decide +kernel
theorem dX8_night_85 : decode cX8_night 85 = .ok (.iload_n 2, 1) := by decide +kernel
theorem dX8_night_86 : decode cX8_night 86 = .ok (.goto 12, 3) := by decide +kernel
theorem dX8_night_89 : decode cX8_night 89 = .ok (.iload_n 2, 1) := by decide +kernel
theorem dX8_night_90 : decode cX8_night 90 = .ok (.ifCond .ne 7, 3) := by decide +kernel
theorem dX8_night_93 : decode cX8_night 93 = .ok (.iconst 0, 1) := by decide +kernel
theorem dX8_night_94 : decode cX8_night 94 = .ok (.goto 4, 3) := by decide +kernel
theorem dX8_night_97 : decode cX8_night 97 = .ok (.iload_n 3, 1) := by decide +kernel
theorem dX8_night_98 : decode cX8_night 98 = .ok (.ireturn, 1) := by decide +kernel
set_option maxRecDepth 20000 in
theorem ggX8_best_X8_in : GoodIn wsX8_best wsX8_in := goodIn_r _ [9] (by decide +kernel) (by decide +kernel)
set_option maxRecDepth 20000 in
theorem gX8_best_X8_in : GoodIn wsX8_best (va_wsS RX8 77 yX8_in wsX8_in) := goodIn_app (goodIn_of _ (by decide +kernel)) ggX8_best_X8_in
set_option maxRecDepth 20000 in
theorem ggX8_best_X8_weightIn : GoodIn wsX8_best wsX8_weightIn := goodIn_r _ [13, 14, 15, 19, 20, 21, 22, 23, 24, 25, 26, 27, 28, 29, 30, 31, 32, 33, 34, 35, 36, 37, 38, 39, 40, 41, 42, 43, 44, 45, 46, 47, 48, 49, 50, 51, 52, 53] (by decide +kernel) (by decide +kernel)
set_option maxRecDepth 20000 in
theorem gX8_best_X8_weightIn : GoodIn wsX8_best (wsV RX8 182 RX8 yX8_weightIn wsX8_weightIn) := goodIn_app (goodIn_of _ (by decide +kernel)) ggX8_best_X8_weightIn
set_option maxRecDepth 20000 in
theorem ggX8_best_X8_one : GoodIn wsX8_best wsX8_one := goodIn_r _ [18] (by decide +kernel) (by decide +kernel)
set_option maxRecDepth 20000 in
theorem gX8_best_X8_one : GoodIn wsX8_best (va_wsS RX8 141 yX8_one wsX8_one) := goodIn_app (goodIn_of _ (by decide +kernel)) ggX8_best_X8_one
theorem dX8_best_0 : decode cX8_best 0 = .ok (.iload_n 1, 1) := by decide +kernel
theorem dX8_best_1 : decode cX8_best 1 = .ok (.i2l, 1) := by decide +kernel
theorem dX8_best_2 : decode cX8_best 2 = .ok (.lconst 0, 1) := by decide +kernel
theorem dX8_best_3 : decode cX8_best 3 = .ok (.ldc2_w 272, 3) := by decide +kernel
theorem dX8_best_6 : decode cX8_best 6 = .ok (.invokestatic 77, 3) := by decide +kernel
theorem dX8_best_9 : decode cX8_best 9 = .ok (.ifCond .ne 6, 3) := by decide +kernel
theorem dX8_best_12 : decode cX8_best 12 = .ok (.ldc 81, 2) := by decide +kernel
theorem dX8_best_14 : decode cX8_best 14 = .ok (.ireturn, 1) := by decide +kernel
theorem dX8_best_15 : decode cX8_best 15 = .ok (.iconst (-1), 1) := by decide +kernel
theorem dX8_best_16 : decode cX8_best 16 = .ok (.istore_n 2, 1) := by decide +kernel
theorem dX8_best_17 : decode cX8_best 17 = .ok (.iconst (-1), 1) := by decide +kernel
theorem dX8_best_18 : decode cX8_best 18 = .ok (.istore_n 3, 1) := by decide +kernel
theorem dX8_best_19 : decode cX8_best 19 = .ok (.iconst (-1), 1) := by decide +kernel
theorem dX8_best_20 : decode cX8_best 20 = .ok (.istore 4, 2) := by decide +kernel
theorem dX8_best_22 : decode cX8_best 22 = .ok (.iconst 0, 1) := by decide +kernel
theorem dX8_best_23 : decode cX8_best 23 = .ok (.istore 5, 2) := by decide +kernel
theorem dX8_best_25 : decode cX8_best 25 = .ok (.iload 5, 2) := by decide +kernel
theorem dX8_best_27 : decode cX8_best 27 = .ok (.bipush 99, 2) := by decide +kernel
theorem dX8_best_29 : decode cX8_best 29 = .ok (.if_icmp .ge 165, 3) := by decide +kernel
theorem dX8_best_32 : decode cX8_best 32 = .ok (.aload_n 0, 1) := by decide +kernel
theorem dX8_best_33 : decode cX8_best 33 = .ok (.getfield 164, 3) := by decide +kernel
theorem dX8_best_36 : decode cX8_best 36 = .ok (.ifCond .le 158, 3) := by decide +kernel
theorem dX8_best_39 : decode cX8_best 39 = .ok (.iconst 1, 1) := by decide +kernel
theorem dX8_best_40 : decode cX8_best 40 = .ok (.istore 6, 2) := by decide +kernel
theorem dX8_best_42 : decode cX8_best 42 = .ok (.iload 6, 2) := by decide +kernel
theorem dX8_best_44 : decode cX8_best 44 = .ok (.iload 5, 2) := by decide +kernel
theorem dX8_best_46 : decode cX8_best 46 = .ok (.iadd, 1) := by decide +kernel
theorem dX8_best_47 : decode cX8_best 47 = .ok (.bipush 99, 2) := by decide +kernel
theorem dX8_best_49 : decode cX8_best 49 = .ok (.if_icmp .gt 139, 3) := by decide +kernel
theorem dX8_best_52 : decode cX8_best 52 = .ok (.iconst 0, 1) := by decide +kernel
theorem dX8_best_53 : decode cX8_best 53 = .ok (.istore 7, 2) := by decide +kernel
theorem dX8_best_55 : decode cX8_best 55 = .ok (.iconst 0, 1) := by decide +kernel
theorem dX8_best_56 : decode cX8_best 56 = .ok (.istore 8, 2) := by decide +kernel
theorem dX8_best_58 : decode cX8_best 58 = .ok (.iconst 0, 1) := by decide +kernel
theorem dX8_best_59 : decode cX8_best 59 = .ok (.istore 9, 2) := by decide +kernel
theorem dX8_best_61 : decode cX8_best 61 = .ok (.iload 9, 2) := by decide +kernel
theorem dX8_best_63 : decode cX8_best 63 = .ok (.aload_n 0, 1) := by decide +kernel
theorem dX8_best_64 : decode cX8_best 64 = .ok (.getfield 164, 3) := by decide +kernel
theorem dX8_best_67 : decode cX8_best 67 = .ok (.if_icmp .ge 37, 3) := by decide +kernel
theorem dX8_best_70 : decode cX8_best 70 = .ok (.iload 7, 2) := by decide +kernel
theorem dX8_best_72 : decode cX8_best 72 = .ok (.aload_n 0, 1) := by decide +kernel
theorem dX8_best_73 : decode cX8_best 73 = .ok (.iconst 0, 1) := by decide +kernel
theorem dX8_best_74 : decode cX8_best 74 = .ok (.iload 9, 2) := by decide +kernel
theorem dX8_best_76 : decode cX8_best 76 = .ok (.invokevirtual 182, 3) := by decide +kernel
theorem dX8_best_79 : decode cX8_best 79 = .ok (.i2l, 1) := by decide +kernel
theorem dX8_best_80 : decode cX8_best 80 = .ok (.iload 6, 2) := by decide +kernel
theorem dX8_best_82 : decode cX8_best 82 = .ok (.i2l, 1) := by decide +kernel
theorem dX8_best_83 : decode cX8_best 83 = .ok (.iload 6, 2) := by decide +kernel
theorem dX8_best_85 : decode cX8_best 85 = .ok (.iload 5, 2) := by decide +kernel
theorem dX8_best_87 : decode cX8_best 87 = .ok (.iadd, 1) := by decide +kernel
theorem dX8_best_88 : decode cX8_best 88 = .ok (.i2l, 1) := by decide +kernel
theorem dX8_best_89 : decode cX8_best 89 = .ok (.invokestatic 77, 3) := by decide +kernel
theorem dX8_best_92 : decode cX8_best 92 = .ok (.invokestatic 141, 3) := by decide +kernel
theorem dX8_best_95 : decode cX8_best 95 = .ok (.iadd, 1) := by decide +kernel
theorem dX8_best_96 : decode cX8_best 96 = .ok (.istore 7, 2) := by decide +kernel
theorem dX8_best_98 : decode cX8_best 98 = .ok (.iinc 9 1, 3) := by decide +kernel
theorem dX8_best_101 : decode cX8_best 101 = .ok (.goto (-40), 3) := by decide +kernel
theorem dX8_best_104 : decode cX8_best 104 = .ok (.iconst 0, 1) := by decide +kernel
theorem dX8_best_105 : decode cX8_best 105 = .ok (.istore 9, 2) := by decide +kernel
theorem dX8_best_107 : decode cX8_best 107 = .ok (.iload 9, 2) := by decide +kernel
theorem dX8_best_109 : decode cX8_best 109 = .ok (.aload_n 0, 1) := by decide +kernel
theorem dX8_best_110 : decode cX8_best 110 = .ok (.getfield 170, 3) := by decide +kernel
theorem dX8_best_113 : decode cX8_best 113 = .ok (.if_icmp .ge 44, 3) := by decide +kernel
theorem dX8_best_116 : decode cX8_best 116 = .ok (.iload 8, 2) := by decide +kernel
theorem dX8_best_118 : decode cX8_best 118 = .ok (.ifCond .ne 26, 3) := by decide +kernel
theorem dX8_best_121 : decode cX8_best 121 = .ok (.aload_n 0, 1) := by decide +kernel
theorem dX8_best_122 : decode cX8_best 122 = .ok (.getfield 44, 3) := by decide +kernel
theorem dX8_best_125 : decode cX8_best 125 = .ok (.iload 9, 2) := by decide +kernel
theorem dX8_best_127 : decode cX8_best 127 = .ok (.iaload, 1) := by decide +kernel
theorem dX8_best_128 : decode cX8_best 128 = .ok (.i2l, 1) := by decide +kernel
theorem dX8_best_129 : decode cX8_best 129 = .ok (.iload 6, 2) := by decide +kernel
theorem dX8_best_131 : decode cX8_best 131 = .ok (.i2l, 1) := by decide +kernel
theorem dX8_best_132 : decode cX8_best 132 = .ok (.iload 6, 2) := by decide +kernel
theorem dX8_best_134 : decode cX8_best 134 = .ok (.iload 5, 2) := by decide +kernel
theorem dX8_best_136 : decode cX8_best 136 = .ok (.iadd, 1) := by decide +kernel
theorem dX8_best_137 : decode cX8_best 137 = .ok (.i2l, 1) := by decide +kernel
theorem dX8_best_138 : decode cX8_best 138 = .ok (.invokestatic 77, 3) := by decide +kernel
theorem dX8_best_141 : decode cX8_best 141 = .ok (.ifCond .eq 7, 3) := by decide +kernel
theorem dX8_best_144 : decode cX8_best 144 = .ok (.iconst 1, 1) := by decide +kernel
