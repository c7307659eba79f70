set_option maxRecDepth 20000 in
theorem gX8_isKind_X8_in : GoodIn wsX8_isKind (va_wsS RX8 77 yX8_in wsX8_in) := goodIn_app (goodIn_of _ (by decide +kernel)) ggX8_isKind_X8_in
theorem dX8_isKind_0 : decode cX8_isKind 0 = .ok (.iload_n 1, 1) := by decide +kernel
theorem dX8_isKind_1 : decode cX8_isKind 1 = .ok (.i2l, 1) := by decide +kernel
theorem dX8_isKind_2 : decode cX8_isKind 2 = .ok (.lconst 0, 1) := by decide +kernel
theorem dX8_isKind_3 : decode cX8_isKind 3 = .ok (.aload_n 0, 1) := by decide +kernel
theorem dX8_isKind_4 : decode cX8_isKind 4 = .ok (.getfield 164, 3) := by decide +kernel
theorem dX8_isKind_7 : decode cX8_isKind 7 = .ok (.iconst 1, 1) := by decide +kernel
theorem dX8_isKind_8 : decode cX8_isKind 8 = .ok (.isub, 1) := by decide +kernel
theorem dX8_isKind_9 : decode cX8_isKind 9 = .ok (.i2l, 1) := by decide +kernel
theorem dX8_isKind_10 : decode cX8_isKind 10 = .ok (.invokestatic 77, 3) := by decide +kernel
theorem dX8_isKind_13 : decode cX8_isKind 13 = .ok (.ireturn, 1) := by decide +kernel
set_option maxRecDepth 20000 in
theorem ggX8_isColumn_X8_in : GoodIn wsX8_isColumn wsX8_in := goodIn_r _ [5] (by decide +kernel) (by decide +kernel)
set_option maxRecDepth 20000 in
theorem gX8_isColumn_X8_in : GoodIn wsX8_isColumn (va_wsS RX8 77 yX8_in wsX8_in) := goodIn_app (goodIn_of _ (by decide +kernel)) ggX8_isColumn_X8_in
theorem dX8_isColumn_0 : decode cX8_isColumn 0 = .ok (.iload_n 1, 1) := by decide +kernel
theorem dX8_isColumn_1 : decode cX8_isColumn 1 = .ok (.i2l, 1) := by decide +kernel
theorem dX8_isColumn_2 : decode cX8_isColumn 2 = .ok (.lconst 0, 1) := by decide +kernel
theorem dX8_isColumn_3 : decode cX8_isColumn 3 = .ok (.aload_n 0, 1) := by decide +kernel
theorem dX8_isColumn_4 : decode cX8_isColumn 4 = .ok (.getfield 167, 3) := by decide +kernel
theorem dX8_isColumn_7 : decode cX8_isColumn 7 = .ok (.iconst 1, 1) := by decide +kernel
theorem dX8_isColumn_8 : decode cX8_isColumn 8 = .ok (.isub, 1) := by decide +kernel
theorem dX8_isColumn_9 : decode cX8_isColumn 9 = .ok (.i2l, 1) := by decide +kernel
theorem dX8_isColumn_10 : decode cX8_isColumn 10 = .ok (.invokestatic 77, 3) := by decide +kernel
theorem dX8_isColumn_13 : decode cX8_isColumn 13 = .ok (.ireturn, 1) := by decide +kernel
theorem dX8_weightIn_0 : decode cX8_weightIn 0 = .ok (.aload_n 0, 1) := by decide +kernel
theorem dX8_weightIn_1 : decode cX8_weightIn 1 = .ok (.getfield 20, 3) := by decide +kernel
theorem dX8_weightIn_4 : decode cX8_weightIn 4 = .ok (.iload_n 2, 1) := by decide +kernel
theorem dX8_weightIn_5 : decode cX8_weightIn 5 = .ok (.iaload, 1) := by decide +kernel
theorem dX8_weightIn_6 : decode cX8_weightIn 6 = .ok (.aload_n 0, 1) := by decide +kernel
theorem dX8_weightIn_7 : decode cX8_weightIn 7 = .ok (.getfield 7, 3) := by decide +kernel
theorem dX8_weightIn_10 : decode cX8_weightIn 10 = .ok (.iload_n 1, 1) := by decide +kernel
theorem dX8_weightIn_11 : decode cX8_weightIn 11 = .ok (.bipush 49, 2) := by decide +kernel
theorem dX8_weightIn_13 : decode cX8_weightIn 13 = .ok (.iadd, 1) := by decide +kernel
theorem dX8_weightIn_14 : decode cX8_weightIn 14 = .ok (.iaload, 1) := by decide +kernel
theorem dX8_weightIn_15 : decode cX8_weightIn 15 = .ok (.isub, 1) := by decide +kernel
theorem dX8_weightIn_16 : decode cX8_weightIn 16 = .ok (.ireturn, 1) := by decide +kernel
set_option maxRecDepth 20000 in
theorem ggX8_passes_X8_in : GoodIn wsX8_passes wsX8_in := goodIn_r _ [5] (by decide +kernel) (by decide +kernel)
set_option maxRecDepth 20000 in
theorem gX8_passes_X8_in : GoodIn wsX8_passes (va_wsS RX8 77 yX8_in wsX8_in) := goodIn_app (goodIn_of _ (by decide +kernel)) ggX8_passes_X8_in
theorem dX8_passes_0 : decode cX8_passes 0 = .ok (.iload_n 3, 1) := by decide +kernel
theorem dX8_passes_1 : decode cX8_passes 1 = .ok (.i2l, 1) := by decide +kernel
theorem dX8_passes_2 : decode cX8_passes 2 = .ok (.aload_n 0, 1) := by decide +kernel
theorem dX8_passes_3 : decode cX8_passes 3 = .ok (.getfield 7, 3) := by decide +kernel
theorem dX8_passes_6 : decode cX8_passes 6 = .ok (.iload_n 1, 1) := by decide +kernel
theorem dX8_passes_7 : decode cX8_passes 7 = .ok (.bipush 30, 2) := by decide +kernel
theorem dX8_passes_9 : decode cX8_passes 9 = .ok (.iadd, 1) := by decide +kernel
theorem dX8_passes_10 : decode cX8_passes 10 = .ok (.iload_n 2, 1) := by decide +kernel
theorem dX8_passes_11 : decode cX8_passes 11 = .ok (.iadd, 1) := by decide +kernel
theorem dX8_passes_12 : decode cX8_passes 12 = .ok (.iaload, 1) := by decide +kernel
theorem dX8_passes_13 : decode cX8_passes 13 = .ok (.i2l, 1) := by decide +kernel
theorem dX8_passes_14 : decode cX8_passes 14 = .ok (.aload_n 0, 1) := by decide +kernel
theorem dX8_passes_15 : decode cX8_passes 15 = .ok (.getfield 7, 3) := by decide +kernel
theorem dX8_passes_18 : decode cX8_passes 18 = .ok (.iload_n 1, 1) := by decide +kernel
theorem dX8_passes_19 : decode cX8_passes 19 = .ok (.bipush 35, 2) := by decide +kernel
theorem dX8_passes_21 : decode cX8_passes 21 = .ok (.iadd, 1) := by decide +kernel
theorem dX8_passes_22 : decode cX8_passes 22 = .ok (.iload_n 2, 1) := by decide +kernel
theorem dX8_passes_23 : decode cX8_passes 23 = .ok (.iadd, 1) := by decide +kernel
theorem dX8_passes_24 : decode cX8_passes 24 = .ok (.iaload, 1) := by decide +kernel
theorem dX8_passes_25 : decode cX8_passes 25 = .ok (.i2l, 1) := by decide +kernel
theorem dX8_passes_26 : decode cX8_passes 26 = .ok (.invokestatic 77, 3) := by decide +kernel
theorem dX8_passes_29 : decode cX8_passes 29 = .ok (.ireturn, 1) := by decide +kernel
theorem dX8_valueOfAll_0 : decode cX8_valueOfAll 0 = .ok (.iconst 0, 1) := by decide +kernel
theorem dX8_valueOfAll_1 : decode cX8_valueOfAll 1 = .ok (.istore_n 1, 1) := by decide +kernel
theorem dX8_valueOfAll_2 : decode cX8_valueOfAll 2 = .ok (.iconst 0, 1) := by decide +kernel
theorem dX8_valueOfAll_3 : decode cX8_valueOfAll 3 = .ok (.istore_n 2, 1) := by decide +kernel
theorem dX8_valueOfAll_4 : decode cX8_valueOfAll 4 = .ok (.iload_n 2, 1) := by decide +kernel
theorem dX8_valueOfAll_5 : decode cX8_valueOfAll 5 = .ok (.aload_n 0, 1) := by decide +kernel
theorem dX8_valueOfAll_6 : decode cX8_valueOfAll 6 = .ok (.getfield 164, 3) := by decide +kernel
theorem dX8_valueOfAll_9 : decode cX8_valueOfAll 9 = .ok (.if_icmp .ge 25, 3) := by decide +kernel
theorem dX8_valueOfAll_12 : decode cX8_valueOfAll 12 = .ok (.iload_n 1, 1) := by decide +kernel
theorem dX8_valueOfAll_13 : decode cX8_valueOfAll 13 = .ok (.aload_n 0, 1) := by decide +kernel
theorem dX8_valueOfAll_14 : decode cX8_valueOfAll 14 = .ok (.getfield 17, 3) := by decide +kernel
theorem dX8_valueOfAll_17 : decode cX8_valueOfAll 17 = .ok (.iload_n 2, 1) := by decide +kernel
theorem dX8_valueOfAll_18 : decode cX8_valueOfAll 18 = .ok (.iaload, 1) := by decide +kernel
theorem dX8_valueOfAll_19 : decode cX8_valueOfAll 19 = .ok (.aload_n 0, 1) := by decide +kernel
theorem dX8_valueOfAll_20 : decode cX8_valueOfAll 20 = .ok (.getfield 7, 3) := by decide +kernel
theorem dX8_valueOfAll_23 : decode cX8_valueOfAll 23 = .ok (.iload_n 2, 1) := by decide +kernel
theorem dX8_valueOfAll_24 : decode cX8_valueOfAll 24 = .ok (.iaload, 1) := by decide +kernel
theorem dX8_valueOfAll_25 : decode cX8_valueOfAll 25 = .ok (.imul, 1) := by decide +kernel
theorem dX8_valueOfAll_26 : decode cX8_valueOfAll 26 = .ok (.iadd, 1) := by decide +kernel
theorem dX8_valueOfAll_27 : decode cX8_valueOfAll 27 = .ok (.istore_n 1, 1) := by decide +kernel
theorem dX8_valueOfAll_28 : decode cX8_valueOfAll 28 = .ok (.iinc 2 1, 3) := by decide +kernel
theorem dX8_valueOfAll_31 : decode cX8_valueOfAll 31 = .ok (.goto (-27), 3) := by decide +kernel
theorem dX8_valueOfAll_34 : decode cX8_valueOfAll 34 = .ok (.iload_n 1, 1) := by decide +kernel
theorem dX8_valueOfAll_35 : decode cX8_valueOfAll 35 = .ok (.ireturn, 1) := by decide +kernel
set_option maxRecDepth 20000 in
theorem ggX8_told_X8_valueOfAll : GoodIn wsX8_told wsX8_valueOfAll := goodIn_r _ [13, 1, 14, 5, 15, 16, 17, 18, 19, 20, 21, 22, 23, 24, 25, 26, 27, 28, 29, 30, 31, 32, 33, 34, 35, 36, 37, 38, 39, 40, 41, 42, 43, 44, 45, 46, 47, 48, 49] (by decide +kernel) (by decide +kernel)
set_option maxRecDepth 20000 in
theorem gX8_told_X8_valueOfAll : GoodIn wsX8_told (wsV RX8 179 RX8 yX8_valueOfAll wsX8_valueOfAll) := goodIn_app (goodIn_of _ (by decide +kernel)) ggX8_told_X8_valueOfAll
theorem dX8_told_0 : decode cX8_told 0 = .ok (.iload_n 1, 1) := by decide +kernel
theorem dX8_told_1 : decode cX8_told 1 = .ok (.tableswitch 138 0 11 #[63, 68, 73, 78, 83, 91, 99, 107, 115, 123, 128, 133], 63) := by decide +kernel
theorem dX8_told_64 : decode cX8_told 64 = .ok (.aload_n 0, 1) := by decide +kernel
theorem dX8_told_65 : decode cX8_told 65 = .ok (.getfield 164, 3) := by decide +kernel
theorem dX8_told_68 : decode cX8_told 68 = .ok (.ireturn, 1) := by decide +kernel
theorem dX8_told_69 : decode cX8_told 69 = .ok (.aload_n 0, 1) := by decide +kernel
theorem dX8_told_70 : decode cX8_told 70 = .ok (.getfield 167, 3) := by decide +kernel
theorem dX8_told_73 : decode cX8_told 73 = .ok (.ireturn, 1) := by decide +kernel
theorem dX8_told_74 : decode cX8_told 74 = .ok (.aload_n 0, 1) := by decide +kernel
theorem dX8_told_75 : decode cX8_told 75 = .ok (.getfield 170, 3) := by decide +kernel
theorem dX8_told_78 : decode cX8_told 78 = .ok (.ireturn, 1) := by decide +kernel
theorem dX8_told_79 : decode cX8_told 79 = .ok (.aload_n 0, 1) := by decide +kernel
theorem dX8_told_80 : decode cX8_told 80 = .ok (.getfield 82, 3) := by decide +kernel
theorem dX8_told_83 : decode cX8_told 83 = .ok (.ireturn, 1) := by decide +kernel
theorem dX8_told_84 : decode cX8_told 84 = .ok (.aload_n 0, 1) := by decide +kernel
theorem dX8_told_85 : decode cX8_told 85 = .ok (.getfield 7, 3) := by decide +kernel
theorem dX8_told_88 : decode cX8_told 88 = .ok (.bipush 45, 2) := by decide +kernel
theorem dX8_told_90 : decode cX8_told 90 = .ok (.iaload, 1) := by decide +kernel
theorem dX8_told_91 : decode cX8_told 91 = .ok (.ireturn, 1) := by decide +kernel
theorem dX8_told_92 : decode cX8_told 92 = .ok (.aload_n 0, 1) := by decide +kernel
theorem dX8_told_93 : decode cX8_told 93 = .ok (.getfield 7, 3) := by decide +kernel
theorem dX8_told_96 : decode cX8_told 96 = .ok (.bipush 46, 2) := by decide +kernel
theorem dX8_told_98 : decode cX8_told 98 = .ok (.iaload, 1) := by decide +kernel
theorem dX8_told_99 : decode cX8_told 99 = .ok (.ireturn, 1) := by decide +kernel
theorem dX8_told_100 : decode cX8_told 100 = .ok (.aload_n 0, 1) := by decide +kernel
theorem dX8_told_101 : decode cX8_told 101 = .ok (.getfield 7, 3) := by decide +kernel
theorem dX8_told_104 : decode cX8_told 104 = .ok (.bipush 47, 2) := by decide +kernel
theorem dX8_told_106 : decode cX8_told 106 = .ok (.iaload, 1) := by decide +kernel
theorem dX8_told_107 : decode cX8_told 107 = .ok (.ireturn, 1) := by decide +kernel
theorem dX8_told_108 : decode cX8_told 108 = .ok (.aload_n 0, 1) := by decide +kernel
theorem dX8_told_109 : decode cX8_told 109 = .ok (.getfield 7, 3) := by decide +kernel
theorem dX8_told_112 : decode cX8_told 112 = .ok (.bipush 48, 2) := by decide +kernel
theorem dX8_told_114 : decode cX8_told 114 = .ok (.iaload, 1) := by decide +kernel
theorem dX8_told_115 : decode cX8_told 115 = .ok (.ireturn, 1) := by decide +kernel
theorem dX8_told_116 : decode cX8_told 116 = .ok (.aload_n 0, 1) := by decide +kernel
theorem dX8_told_117 : decode cX8_told 117 = .ok (.getfield 7, 3) := by decide +kernel
theorem dX8_told_120 : decode cX8_told 120 = .ok (.bipush 49, 2) := by decide +kernel
theorem dX8_told_122 : decode cX8_told 122 = .ok (.iaload, 1) := by decide +kernel
theorem dX8_told_123 : decode cX8_told 123 = .ok (.ireturn, 1) := by decide +kernel
theorem dX8_told_124 : decode cX8_told 124 = .ok (.aload_n 0, 1) := by decide +kernel
theorem dX8_told_125 : decode cX8_told 125 = .ok (.getfield 173, 3) := by decide +kernel
theorem dX8_told_128 : decode cX8_told 128 = .ok (.ireturn, 1) := by decide +kernel
theorem dX8_told_129 : decode cX8_told 129 = .ok (.aload_n 0, 1) := by decide +kernel
theorem dX8_told_130 : decode cX8_told 130 = .ok (.getfield 176, 3) := by decide +kernel
theorem dX8_told_133 : decode cX8_told 133 = .ok (.ireturn, 1) := by decide +kernel
theorem dX8_told_134 : decode cX8_told 134 = .ok (.aload_n 0, 1) := by decide +kernel
theorem dX8_told_135 : decode cX8_told 135 = .ok (.invokevirtual 179, 3) := by decide +kernel
theorem dX8_told_138 : decode cX8_told 138 = .ok (.ireturn, 1) := by decide +kernel
theorem dX8_told_139 : decode cX8_told 139 = .ok (.ldc 81, 2) := by decide +kernel
theorem dX8_told_141 : decode cX8_told 141 = .ok (.ireturn, 1) := by decide +kernel
set_option maxRecDepth 20000 in
theorem ggX8_passedBy_X8_weightIn : GoodIn wsX8_passedBy wsX8_weightIn := goodIn_r _ [6, 7, 8, 19, 20, 21, 22, 23, 24, 25, 26, 27, 28, 29, 30, 31, 32, 33, 34, 35, 36, 37, 38, 39, 40, 41, 42, 43, 44, 45, 46, 47, 48, 49, 50, 51, 52, 53] (by decide +kernel) (by decide +kernel)
set_option maxRecDepth 20000 in
theorem gX8_passedBy_X8_weightIn : GoodIn wsX8_passedBy (wsV RX8 182 RX8 yX8_weightIn wsX8_weightIn) := goodIn_app (goodIn_of _ (by decide +kernel)) ggX8_passedBy_X8_weightIn
set_option maxRecDepth 20000 in
theorem ggX8_passedBy_X8_passes : GoodIn wsX8_passedBy wsX8_passes := goodIn_r _ [12, 8, 13, 14, 5, 15, 19, 20, 21, 22, 23, 24, 25, 26, 27, 28, 29, 30, 31, 32, 33, 34, 35, 36, 37, 38, 39, 40, 41, 42, 43, 44, 45, 46, 47, 48, 49, 50, 51, 52, 53] (by decide +kernel) (by decide +kernel)
set_option maxRecDepth 20000 in
theorem gX8_passedBy_X8_passes : GoodIn wsX8_passedBy (wsV RX8 185 RX8 yX8_passes wsX8_passes) := goodIn_app (goodIn_of _ (by decide +kernel)) ggX8_passedBy_X8_passes
set_option maxRecDepth 20000 in
theorem ggX8_passedBy_X8_one : GoodIn wsX8_passedBy wsX8_one := goodIn_r _ [18] (by decide +kernel) (by decide +kernel)
set_option maxRecDepth 20000 in
theorem gX8_passedBy_X8_one : GoodIn wsX8_passedBy (va_wsS RX8 141 yX8_one wsX8_one) := goodIn_app (goodIn_of _ (by decide +kernel)) ggX8_passedBy_X8_one
theorem dX8_passedBy_0 : decode cX8_passedBy 0 = .ok (.iconst 0, 1) := by decide +kernel
theorem dX8_passedBy_1 : decode cX8_passedBy 1 = .ok (.istore_n 2, 1) := by decide +kernel
theorem dX8_passedBy_2 : decode cX8_passedBy 2 = .ok (.iconst 0, 1) := by decide +kernel
theorem dX8_passedBy_3 : decode cX8_passedBy 3 = .ok (.istore_n 3, 1) := by decide +kernel
theorem dX8_passedBy_4 : decode cX8_passedBy 4 = .ok (.iload_n 3, 1) := by decide +kernel
theorem dX8_passedBy_5 : decode cX8_passedBy 5 = .ok (.aload_n 0, 1) := by decide +kernel
theorem dX8_passedBy_6 : decode cX8_passedBy 6 = .ok (.getfield 167, 3) := by decide +kernel
theorem dX8_passedBy_9 : decode cX8_passedBy 9 = .ok (.if_icmp .ge 29, 3) := by decide +kernel
theorem dX8_passedBy_12 : decode cX8_passedBy 12 = .ok (.iload_n 2, 1) := by decide +kernel
theorem dX8_passedBy_13 : decode cX8_passedBy 13 = .ok (.aload_n 0, 1) := by decide +kernel
theorem dX8_passedBy_14 : decode cX8_passedBy 14 = .ok (.iconst 0, 1) := by decide +kernel
theorem dX8_passedBy_15 : decode cX8_passedBy 15 = .ok (.iload_n 3, 1) := by decide +kernel
theorem dX8_passedBy_16 : decode cX8_passedBy 16 = .ok (.aload_n 0, 1) := by decide +kernel
theorem dX8_passedBy_17 : decode cX8_passedBy 17 = .ok (.iconst 0, 1) := by decide +kernel
theorem dX8_passedBy_18 : decode cX8_passedBy 18 = .ok (.iload_n 1, 1) := by decide +kernel
theorem dX8_passedBy_19 : decode cX8_passedBy 19 = .ok (.invokevirtual 182, 3) := by decide +kernel
theorem dX8_passedBy_22 : decode cX8_passedBy 22 = .ok (.invokevirtual 185, 3) := by decide +kernel
theorem dX8_passedBy_25 : decode cX8_passedBy 25 = .ok (.invokestatic 141, 3) := by decide +kernel
theorem dX8_passedBy_28 : decode cX8_passedBy 28 = .ok (.iload_n 3, 1) := by decide +kernel
theorem dX8_passedBy_29 : decode cX8_passedBy 29 = .ok (.ishl, 1) := by decide +kernel
theorem dX8_passedBy_30 : decode cX8_passedBy 30 = .ok (.ior, 1) := by decide +kernel
theorem dX8_passedBy_31 : decode cX8_passedBy 31 = .ok (.istore_n 2, 1) := by decide +kernel
theorem dX8_passedBy_32 : decode cX8_passedBy 32 = .ok (.iinc 3 1, 3) := by decide +kernel
theorem dX8_passedBy_35 : decode cX8_passedBy 35 = .ok (.goto (-31), 3) := by decide +kernel
theorem dX8_passedBy_38 : decode cX8_passedBy 38 = .ok (.iload_n 2, 1) := by decide +kernel
theorem dX8_passedBy_39 : decode cX8_passedBy 39 = .ok (.ireturn, 1) := by decide +kernel
set_option maxRecDepth 20000 in
theorem ggX8_coin_X8_isKind : GoodIn wsX8_coin wsX8_isKind := goodIn_r _ [10, 11, 12, 13, 9, 14, 31, 32, 33, 34, 35, 36, 37, 38, 39, 40, 41, 42, 43, 44, 45, 46, 47, 48, 49, 50, 51, 52, 53, 54, 55, 56, 57, 58, 59, 60, 61, 62, 63, 64, 65] (by decide +kernel) (by decide +kernel)
set_option maxRecDepth 20000 in
theorem gX8_coin_X8_isKind : GoodIn wsX8_coin (wsV RX8 189 RX8 yX8_isKind wsX8_isKind) := goodIn_app (goodIn_of _ (by decide +kernel)) ggX8_coin_X8_isKind
set_option maxRecDepth 20000 in
theorem ggX8_coin_X8_weightIn : GoodIn wsX8_coin wsX8_weightIn := goodIn_r _ [18, 3, 4, 31, 32, 33, 34, 35, 36, 37, 38, 39, 40, 41, 42, 43, 44, 45, 46, 47, 48, 49, 50, 51, 52, 53, 54, 55, 56, 57, 58, 59, 60, 61, 62, 63, 64, 65] (by decide +kernel) (by decide +kernel)
set_option maxRecDepth 20000 in
theorem gX8_coin_X8_weightIn : GoodIn wsX8_coin (wsV RX8 182 RX8 yX8_weightIn wsX8_weightIn) := goodIn_app (goodIn_of _ (by decide +kernel)) ggX8_coin_X8_weightIn
set_option maxRecDepth 20000 in
theorem ggX8_coin_X8_passedBy : GoodIn wsX8_coin wsX8_passedBy := goodIn_r _ [22, 23, 15, 16, 17, 9, 18, 3, 4, 24, 25, 26, 27, 12, 13, 14, 28, 29, 30, 31, 32, 33, 34, 35, 36, 37, 38, 39, 40, 41, 42, 43, 44, 45, 46, 47, 48, 49, 50, 51, 52, 53, 54, 55, 56, 57, 58, 59, 60, 61, 62, 63, 64, 65] (by decide +kernel) (by decide +kernel)
set_option maxRecDepth 20000 in
theorem gX8_coin_X8_passedBy : GoodIn wsX8_coin (wsV RX8 194 RX8 yX8_passedBy wsX8_passedBy) := goodIn_app (goodIn_of _ (by decide +kernel)) ggX8_coin_X8_passedBy
theorem dX8_coin_0 : decode cX8_coin 0 = .ok (.aload_n 0, 1) := by decide +kernel
theorem dX8_coin_1 : decode cX8_coin 1 = .ok (.iload_n 1, 1) := by decide +kernel
theorem dX8_coin_2 : decode cX8_coin 2 = .ok (.invokevirtual 189, 3) := by decide +kernel
theorem dX8_coin_5 : decode cX8_coin 5 = .ok (.ifCond .ne 6, 3) := by decide +kernel
theorem dX8_coin_8 : decode cX8_coin 8 = .ok (.ldc 193, 2) := by decide +kernel
theorem dX8_coin_10 : decode cX8_coin 10 = .ok (.ireturn, 1) := by decide +kernel
theorem dX8_coin_11 : decode cX8_coin 11 = .ok (.iload_n 2, 1) := by decide +kernel
theorem dX8_coin_12 : decode cX8_coin 12 = .ok (.tableswitch 70 0 4 #[36, 43, 50, 57, 64], 36) := by decide +kernel
theorem dX8_coin_48 : decode cX8_coin 48 = .ok (.aload_n 0, 1) := by decide +kernel
theorem dX8_coin_49 : decode cX8_coin 49 = .ok (.getfield 17, 3) := by decide +kernel
theorem dX8_coin_52 : decode cX8_coin 52 = .ok (.iload_n 1, 1) := by decide +kernel
theorem dX8_coin_53 : decode cX8_coin 53 = .ok (.iaload, 1) := by decide +kernel
theorem dX8_coin_54 : decode cX8_coin 54 = .ok (.ireturn, 1) := by decide +kernel
theorem dX8_coin_55 : decode cX8_coin 55 = .ok (.aload_n 0, 1) := by decide +kernel
theorem dX8_coin_56 : decode cX8_coin 56 = .ok (.getfield 20, 3) := by decide +kernel
theorem dX8_coin_59 : decode cX8_coin 59 = .ok (.iload_n 1, 1) := by decide +kernel
theorem dX8_coin_60 : decode cX8_coin 60 = .ok (.iaload, 1) := by decide +kernel
theorem dX8_coin_61 : decode cX8_coin 61 = .ok (.ireturn, 1) := by decide +kernel
theorem dX8_coin_62 : decode cX8_coin 62 = .ok (.aload_n 0, 1) := by decide +kernel
theorem dX8_coin_63 : decode cX8_coin 63 = .ok (.iconst 0, 1) := by decide +kernel
theorem dX8_coin_64 : decode cX8_coin 64 = .ok (.iload_n 1, 1) := by decide +kernel
theorem dX8_coin_65 : decode cX8_coin 65 = .ok (.invokevirtual 182, 3) := by decide +kernel
theorem dX8_coin_68 : decode cX8_coin 68 = .ok (.ireturn, 1) := by decide +kernel
theorem dX8_coin_69 : decode cX8_coin 69 = .ok (.aload_n 0, 1) := by decide +kernel
theorem dX8_coin_70 : decode cX8_coin 70 = .ok (.getfield 7, 3) := by decide +kernel
theorem dX8_coin_73 : decode cX8_coin 73 = .ok (.iload_n 1, 1) := by decide +kernel
theorem dX8_coin_74 : decode cX8_coin 74 = .ok (.iaload, 1) := by decide +kernel
theorem dX8_coin_75 : decode cX8_coin 75 = .ok (.ireturn, 1) := by decide +kernel
theorem dX8_coin_76 : decode cX8_coin 76 = .ok (.aload_n 0, 1) := by decide +kernel
theorem dX8_coin_77 : decode cX8_coin 77 = .ok (.iload_n 1, 1) := by decide +kernel
theorem dX8_coin_78 : decode cX8_coin 78 = .ok (.invokevirtual 194, 3) := by decide +kernel
theorem dX8_coin_81 : decode cX8_coin 81 = .ok (.ireturn, 1) := by decide +kernel
theorem dX8_coin_82 : decode cX8_coin 82 = .ok (.ldc 81, 2) := by decide +kernel
theorem dX8_coin_84 : decode cX8_coin 84 = .ok (.ireturn, 1) := by decide +kernel
set_option maxRecDepth 20000 in
theorem ggX8_passers_X8_weightIn : GoodIn wsX8_passers wsX8_weightIn := goodIn_r _ [8, 9, 10, 21, 22, 23, 24, 25, 26, 27, 28, 29, 30, 31, 32, 33, 34, 35, 36, 37, 38, 39, 40, 41, 42, 43, 44, 45, 46, 47, 48, 49, 50, 51, 52, 53, 54, 55] (by decide +kernel) (by decide +kernel)
set_option maxRecDepth 20000 in
theorem gX8_passers_X8_weightIn : GoodIn wsX8_passers (wsV RX8 182 RX8 yX8_weightIn wsX8_weightIn) := goodIn_app (goodIn_of _ (by decide +kernel)) ggX8_passers_X8_weightIn
set_option maxRecDepth 20000 in
theorem ggX8_passers_X8_passes : GoodIn wsX8_passers wsX8_passes := goodIn_r _ [14, 10, 15, 16, 7, 17, 21, 22, 23, 24, 25, 26, 27, 28, 29, 30, 31, 32, 33, 34, 35, 36, 37, 38, 39, 40, 41, 42, 43, 44, 45, 46, 47, 48, 49, 50, 51, 52, 53, 54, 55] (by decide +kernel) (by decide +kernel)
set_option maxRecDepth 20000 in
theorem gX8_passers_X8_passes : GoodIn wsX8_passers (wsV RX8 185 RX8 yX8_passes wsX8_passes) := goodIn_app (goodIn_of _ (by decide +kernel)) ggX8_passers_X8_passes
set_option maxRecDepth 20000 in
theorem ggX8_passers_X8_one : GoodIn wsX8_passers wsX8_one := goodIn_r _ [20] (by decide +kernel) (by decide +kernel)
set_option maxRecDepth 20000 in
theorem gX8_passers_X8_one : GoodIn wsX8_passers (va_wsS RX8 141 yX8_one wsX8_one) := goodIn_app (goodIn_of _ (by decide +kernel)) ggX8_passers_X8_one
theorem dX8_passers_0 : decode cX8_passers 0 = .ok (.iconst 0, 1) := by decide +kernel
theorem dX8_passers_1 : decode cX8_passers 1 = .ok (.istore_n 3, 1) := by decide +kernel
theorem dX8_passers_2 : decode cX8_passers 2 = .ok (.iconst 0, 1) := by decide +kernel
theorem dX8_passers_3 : decode cX8_passers 3 = .ok (.istore 4, 2) := by decide +kernel
theorem dX8_passers_5 : decode cX8_passers 5 = .ok (.iload 4, 2) := by decide +kernel
theorem dX8_passers_7 : decode cX8_passers 7 = .ok (.iload_n 2, 1) := by decide +kernel
theorem dX8_passers_8 : decode cX8_passers 8 = .ok (.ifCond .eq 10, 3) := by decide +kernel
theorem dX8_passers_11 : decode cX8_passers 11 = .ok (.aload_n 0, 1) := by decide +kernel
theorem dX8_passers_12 : decode cX8_passers 12 = .ok (.getfield 170, 3) := by decide +kernel
theorem dX8_passers_15 : decode cX8_passers 15 = .ok (.goto 7, 3) := by decide +kernel
theorem dX8_passers_18 : decode cX8_passers 18 = .ok (.aload_n 0, 1) := by decide +kernel
theorem dX8_passers_19 : decode cX8_passers 19 = .ok (.getfield 164, 3) := by decide +kernel
theorem dX8_passers_22 : decode cX8_passers 22 = .ok (.if_icmp .ge 45, 3) := by decide +kernel
theorem dX8_passers_25 : decode cX8_passers 25 = .ok (.iload_n 3, 1) := by decide +kernel
theorem dX8_passers_26 : decode cX8_passers 26 = .ok (.aload_n 0, 1) := by decide +kernel
theorem dX8_passers_27 : decode cX8_passers 27 = .ok (.iconst 0, 1) := by decide +kernel
theorem dX8_passers_28 : decode cX8_passers 28 = .ok (.iload_n 1, 1) := by decide +kernel
theorem dX8_passers_29 : decode cX8_passers 29 = .ok (.iload_n 2, 1) := by decide +kernel
theorem dX8_passers_30 : decode cX8_passers 30 = .ok (.ifCond .eq 13, 3) := by decide +kernel
theorem dX8_passers_33 : decode cX8_passers 33 = .ok (.aload_n 0, 1) := by decide +kernel
theorem dX8_passers_34 : decode cX8_passers 34 = .ok (.getfield 44, 3) := by decide +kernel
theorem dX8_passers_37 : decode cX8_passers 37 = .ok (.iload 4, 2) := by decide +kernel
theorem dX8_passers_39 : decode cX8_passers 39 = .ok (.iaload, 1) := by decide +kernel
theorem dX8_passers_40 : decode cX8_passers 40 = .ok (.goto 10, 3) := by decide +kernel
theorem dX8_passers_43 : decode cX8_passers 43 = .ok (.aload_n 0, 1) := by decide +kernel
theorem dX8_passers_44 : decode cX8_passers 44 = .ok (.iconst 0, 1) := by decide +kernel
theorem dX8_passers_45 : decode cX8_passers 45 = .ok (.iload 4, 2) := by decide +kernel
theorem dX8_passers_47 : decode cX8_passers 47 = .ok (.invokevirtual 182, 3) := by decide +kernel
theorem dX8_passers_50 : decode cX8_passers 50 = .ok (.invokevirtual 185, 3) := by decide +kernel
theorem dX8_passers_53 : decode cX8_passers 53 = .ok (.invokestatic 141, 3) := by decide +kernel
theorem dX8_passers_56 : decode cX8_passers 56 = .ok (.iload 4, 2) := by decide +kernel
theorem dX8_passers_58 : decode cX8_passers 58 = .ok (.ishl, 1) := by decide +kernel
theorem dX8_passers_59 : decode cX8_passers 59 = .ok (.ior, 1) := by decide +kernel
theorem dX8_passers_60 : decode cX8_passers 60 = .ok (.istore_n 3, 1) := by decide +kernel
theorem dX8_passers_61 : decode cX8_passers 61 = .ok (.iinc 4 1, 3) := by decide +kernel
theorem dX8_passers_64 : decode cX8_passers 64 = .ok (.goto (-59), 3) := by decide +kernel
theorem dX8_passers_67 : decode cX8_passers 67 = .ok (.iload_n 3, 1) := by decide +kernel
theorem dX8_passers_68 : decode cX8_passers 68 = .ok (.ireturn, 1) := by decide +kernel
set_option maxRecDepth 20000 in
theorem ggX8_column_X8_isColumn : GoodIn wsX8_column wsX8_isColumn := goodIn_r _ [8, 9, 10, 11, 7, 12, 32, 33, 34, 35, 36, 37, 38, 39, 40, 41, 42, 43, 44, 45, 46, 47, 48, 49, 50, 51, 52, 53, 54, 55, 56, 57, 58, 59, 60, 61, 62, 63, 64, 65, 66] (by decide +kernel) (by decide +kernel)
set_option maxRecDepth 20000 in
theorem gX8_column_X8_isColumn : GoodIn wsX8_column (wsV RX8 198 RX8 yX8_isColumn wsX8_isColumn) := goodIn_app (goodIn_of _ (by decide +kernel)) ggX8_column_X8_isColumn
set_option maxRecDepth 20000 in
theorem ggX8_column_X8_one : GoodIn wsX8_column wsX8_one := goodIn_r _ [15] (by decide +kernel) (by decide +kernel)
set_option maxRecDepth 20000 in
theorem gX8_column_X8_one : GoodIn wsX8_column (va_wsS RX8 141 yX8_one wsX8_one) := goodIn_app (goodIn_of _ (by decide +kernel)) ggX8_column_X8_one
set_option maxRecDepth 20000 in
theorem ggX8_column_X8_passers : GoodIn wsX8_column wsX8_passers := goodIn_r _ [19, 20, 21, 22, 23, 24, 25, 7, 26, 27, 2, 28, 29, 30, 31, 10, 11, 12, 13, 14, 15, 32, 33, 34, 35, 36, 37, 38, 39, 40, 41, 42, 43, 44, 45, 46, 47, 48, 49, 50, 51, 52, 53, 54, 55, 56, 57, 58, 59, 60, 61, 62, 63, 64, 65, 66] (by decide +kernel) (by decide +kernel)
set_option maxRecDepth 20000 in
theorem gX8_column_X8_passers : GoodIn wsX8_column (wsV RX8 201 RX8 yX8_passers wsX8_passers) := goodIn_app (goodIn_of _ (by decide +kernel)) ggX8_column_X8_passers
theorem dX8_column_0 : decode cX8_column 0 = .ok (.aload_n 0, 1) := by decide +kernel
theorem dX8_column_1 : decode cX8_column 1 = .ok (.iload_n 1, 1) := by decide +kernel
theorem dX8_column_2 : decode cX8_column 2 = .ok (.invokevirtual 198, 3) := by decide +kernel
