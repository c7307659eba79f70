theorem dX8_canBuy_39 : decode cX8_canBuy 39 = .ok (.imul, 1) := by decide +kernel
theorem dX8_canBuy_40 : decode cX8_canBuy 40 = .ok (.aload_n 0, 1) := by decide +kernel
theorem dX8_canBuy_41 : decode cX8_canBuy 41 = .ok (.getfield 7, 3) := by decide +kernel
theorem dX8_canBuy_44 : decode cX8_canBuy 44 = .ok (.iload_n 1, 1) := by decide +kernel
theorem dX8_canBuy_45 : decode cX8_canBuy 45 = .ok (.bipush 25, 2) := by decide +kernel
theorem dX8_canBuy_47 : decode cX8_canBuy 47 = .ok (.iadd, 1) := by decide +kernel
theorem dX8_canBuy_48 : decode cX8_canBuy 48 = .ok (.iload_n 2, 1) := by decide +kernel
theorem dX8_canBuy_49 : decode cX8_canBuy 49 = .ok (.iadd, 1) := by decide +kernel
theorem dX8_canBuy_50 : decode cX8_canBuy 50 = .ok (.iaload, 1) := by decide +kernel
theorem dX8_canBuy_51 : decode cX8_canBuy 51 = .ok (.if_icmp .lt 30, 3) := by decide +kernel
theorem dX8_canBuy_54 : decode cX8_canBuy 54 = .ok (.aload_n 0, 1) := by decide +kernel
theorem dX8_canBuy_55 : decode cX8_canBuy 55 = .ok (.getfield 7, 3) := by decide +kernel
theorem dX8_canBuy_58 : decode cX8_canBuy 58 = .ok (.iload_n 1, 1) := by decide +kernel
theorem dX8_canBuy_59 : decode cX8_canBuy 59 = .ok (.iconst 5, 1) := by decide +kernel
theorem dX8_canBuy_60 : decode cX8_canBuy 60 = .ok (.iadd, 1) := by decide +kernel
theorem dX8_canBuy_61 : decode cX8_canBuy 61 = .ok (.aload_n 0, 1) := by decide +kernel
theorem dX8_canBuy_62 : decode cX8_canBuy 62 = .ok (.getfield 7, 3) := by decide +kernel
theorem dX8_canBuy_65 : decode cX8_canBuy 65 = .ok (.iload_n 1, 1) := by decide +kernel
theorem dX8_canBuy_66 : decode cX8_canBuy 66 = .ok (.bipush 40, 2) := by decide +kernel
theorem dX8_canBuy_68 : decode cX8_canBuy 68 = .ok (.iadd, 1) := by decide +kernel
theorem dX8_canBuy_69 : decode cX8_canBuy 69 = .ok (.iload_n 2, 1) := by decide +kernel
theorem dX8_canBuy_70 : decode cX8_canBuy 70 = .ok (.iadd, 1) := by decide +kernel
theorem dX8_canBuy_71 : decode cX8_canBuy 71 = .ok (.iaload, 1) := by decide +kernel
theorem dX8_canBuy_72 : decode cX8_canBuy 72 = .ok (.iadd, 1) := by decide +kernel
theorem dX8_canBuy_73 : decode cX8_canBuy 73 = .ok (.iaload, 1) := by decide +kernel
theorem dX8_canBuy_74 : decode cX8_canBuy 74 = .ok (.ifCond .le 7, 3) := by decide +kernel
theorem dX8_canBuy_77 : decode cX8_canBuy 77 = .ok (.iconst 1, 1) := by decide +kernel
theorem dX8_canBuy_78 : decode cX8_canBuy 78 = .ok (.goto 4, 3) := by decide +kernel
theorem dX8_canBuy_81 : decode cX8_canBuy 81 = .ok (.iconst 0, 1) := by decide +kernel
theorem dX8_canBuy_82 : decode cX8_canBuy 82 = .ok (.ireturn, 1) := by decide +kernel
set_option maxRecDepth 20000 in
theorem ggX8_sell_X8_putIn : GoodIn wsX8_sell wsX8_putIn := goodIn_r _ [7, 1, 8, 9, 6, 10, 11, 12, 25, 26, 27, 28, 29, 30, 31, 32, 33, 34, 35, 36, 37, 38, 39, 40, 41, 42, 43, 44, 45, 46, 47, 48, 49, 50, 51, 52, 53, 54, 55, 56, 57, 58, 59] (by decide +kernel) (by decide +kernel)
set_option maxRecDepth 20000 in
theorem gX8_sell_X8_putIn : GoodIn wsX8_sell (wsV RX8 215 RX8 yX8_putIn wsX8_putIn) := goodIn_app (goodIn_of _ (by decide +kernel)) ggX8_sell_X8_putIn
set_option maxRecDepth 20000 in
theorem ggX8_sell_X8_payBack : GoodIn wsX8_sell wsX8_payBack := goodIn_r _ [16, 17, 2, 1, 18, 19, 20, 6, 21, 22, 23, 24, 25, 26, 27, 28, 29, 30, 31, 32, 33, 34, 35, 36, 37, 38, 39, 40, 41, 42, 43, 44, 45, 46, 47, 48, 49, 50, 51, 52, 53, 54, 55, 56, 57, 58, 59] (by decide +kernel) (by decide +kernel)
set_option maxRecDepth 20000 in
theorem gX8_sell_X8_payBack : GoodIn wsX8_sell (wsV RX8 219 RX8 yX8_payBack wsX8_payBack) := goodIn_app (goodIn_of _ (by decide +kernel)) ggX8_sell_X8_payBack
set_option maxRecDepth 20000 in
theorem ggX8_sell_X8_held : GoodIn wsX8_sell wsX8_held := goodIn_r _ [10, 11, 12] (by decide +kernel) (by decide +kernel)
set_option maxRecDepth 20000 in
theorem gX8_sell_X8_held : GoodIn wsX8_sell (va_wsS RX8 208 yX8_held wsX8_held) := goodIn_app (goodIn_of _ (by decide +kernel)) ggX8_sell_X8_held
theorem dX8_sell_0 : decode cX8_sell 0 = .ok (.aload_n 0, 1) := by decide +kernel
theorem dX8_sell_1 : decode cX8_sell 1 = .ok (.getfield 7, 3) := by decide +kernel
theorem dX8_sell_4 : decode cX8_sell 4 = .ok (.iload_n 1, 1) := by decide +kernel
theorem dX8_sell_5 : decode cX8_sell 5 = .ok (.iconst 5, 1) := by decide +kernel
theorem dX8_sell_6 : decode cX8_sell 6 = .ok (.iadd, 1) := by decide +kernel
theorem dX8_sell_7 : decode cX8_sell 7 = .ok (.aload_n 0, 1) := by decide +kernel
theorem dX8_sell_8 : decode cX8_sell 8 = .ok (.getfield 7, 3) := by decide +kernel
theorem dX8_sell_11 : decode cX8_sell 11 = .ok (.iload_n 1, 1) := by decide +kernel
theorem dX8_sell_12 : decode cX8_sell 12 = .ok (.bipush 40, 2) := by decide +kernel
theorem dX8_sell_14 : decode cX8_sell 14 = .ok (.iadd, 1) := by decide +kernel
theorem dX8_sell_15 : decode cX8_sell 15 = .ok (.iload_n 2, 1) := by decide +kernel
theorem dX8_sell_16 : decode cX8_sell 16 = .ok (.iadd, 1) := by decide +kernel
theorem dX8_sell_17 : decode cX8_sell 17 = .ok (.iaload, 1) := by decide +kernel
theorem dX8_sell_18 : decode cX8_sell 18 = .ok (.iadd, 1) := by decide +kernel
theorem dX8_sell_19 : decode cX8_sell 19 = .ok (.dup2, 1) := by decide +kernel
theorem dX8_sell_20 : decode cX8_sell 20 = .ok (.iaload, 1) := by decide +kernel
theorem dX8_sell_21 : decode cX8_sell 21 = .ok (.iconst 1, 1) := by decide +kernel
theorem dX8_sell_22 : decode cX8_sell 22 = .ok (.isub, 1) := by decide +kernel
theorem dX8_sell_23 : decode cX8_sell 23 = .ok (.iastore, 1) := by decide +kernel
theorem dX8_sell_24 : decode cX8_sell 24 = .ok (.aload_n 0, 1) := by decide +kernel
theorem dX8_sell_25 : decode cX8_sell 25 = .ok (.iload_n 1, 1) := by decide +kernel
theorem dX8_sell_26 : decode cX8_sell 26 = .ok (.iload_n 3, 1) := by decide +kernel
theorem dX8_sell_27 : decode cX8_sell 27 = .ok (.iload 4, 2) := by decide +kernel
theorem dX8_sell_29 : decode cX8_sell 29 = .ok (.invokevirtual 215, 3) := by decide +kernel
theorem dX8_sell_32 : decode cX8_sell 32 = .ok (.aload_n 0, 1) := by decide +kernel
theorem dX8_sell_33 : decode cX8_sell 33 = .ok (.iload_n 1, 1) := by decide +kernel
theorem dX8_sell_34 : decode cX8_sell 34 = .ok (.iload 4, 2) := by decide +kernel
theorem dX8_sell_36 : decode cX8_sell 36 = .ok (.aload_n 0, 1) := by decide +kernel
theorem dX8_sell_37 : decode cX8_sell 37 = .ok (.getfield 17, 3) := by decide +kernel
theorem dX8_sell_40 : decode cX8_sell 40 = .ok (.iload_n 3, 1) := by decide +kernel
theorem dX8_sell_41 : decode cX8_sell 41 = .ok (.iaload, 1) := by decide +kernel
theorem dX8_sell_42 : decode cX8_sell 42 = .ok (.imul, 1) := by decide +kernel
theorem dX8_sell_43 : decode cX8_sell 43 = .ok (.aload_n 0, 1) := by decide +kernel
theorem dX8_sell_44 : decode cX8_sell 44 = .ok (.getfield 7, 3) := by decide +kernel
theorem dX8_sell_47 : decode cX8_sell 47 = .ok (.iload_n 1, 1) := by decide +kernel
theorem dX8_sell_48 : decode cX8_sell 48 = .ok (.bipush 25, 2) := by decide +kernel
theorem dX8_sell_50 : decode cX8_sell 50 = .ok (.iadd, 1) := by decide +kernel
theorem dX8_sell_51 : decode cX8_sell 51 = .ok (.iload_n 2, 1) := by decide +kernel
theorem dX8_sell_52 : decode cX8_sell 52 = .ok (.iadd, 1) := by decide +kernel
theorem dX8_sell_53 : decode cX8_sell 53 = .ok (.iaload, 1) := by decide +kernel
theorem dX8_sell_54 : decode cX8_sell 54 = .ok (.isub, 1) := by decide +kernel
theorem dX8_sell_55 : decode cX8_sell 55 = .ok (.invokevirtual 219, 3) := by decide +kernel
theorem dX8_sell_58 : decode cX8_sell 58 = .ok (.istore 5, 2) := by decide +kernel
theorem dX8_sell_60 : decode cX8_sell 60 = .ok (.aload_n 0, 1) := by decide +kernel
theorem dX8_sell_61 : decode cX8_sell 61 = .ok (.getfield 7, 3) := by decide +kernel
theorem dX8_sell_64 : decode cX8_sell 64 = .ok (.iload_n 1, 1) := by decide +kernel
theorem dX8_sell_65 : decode cX8_sell 65 = .ok (.bipush 46, 2) := by decide +kernel
theorem dX8_sell_67 : decode cX8_sell 67 = .ok (.iadd, 1) := by decide +kernel
theorem dX8_sell_68 : decode cX8_sell 68 = .ok (.aload_n 0, 1) := by decide +kernel
theorem dX8_sell_69 : decode cX8_sell 69 = .ok (.getfield 7, 3) := by decide +kernel
theorem dX8_sell_72 : decode cX8_sell 72 = .ok (.iload_n 1, 1) := by decide +kernel
theorem dX8_sell_73 : decode cX8_sell 73 = .ok (.bipush 46, 2) := by decide +kernel
theorem dX8_sell_75 : decode cX8_sell 75 = .ok (.iadd, 1) := by decide +kernel
theorem dX8_sell_76 : decode cX8_sell 76 = .ok (.iaload, 1) := by decide +kernel
theorem dX8_sell_77 : decode cX8_sell 77 = .ok (.i2l, 1) := by decide +kernel
theorem dX8_sell_78 : decode cX8_sell 78 = .ok (.iload 5, 2) := by decide +kernel
theorem dX8_sell_80 : decode cX8_sell 80 = .ok (.i2l, 1) := by decide +kernel
theorem dX8_sell_81 : decode cX8_sell 81 = .ok (.ladd, 1) := by decide +kernel
theorem dX8_sell_82 : decode cX8_sell 82 = .ok (.invokestatic 208, 3) := by decide +kernel
theorem dX8_sell_85 : decode cX8_sell 85 = .ok (.iastore, 1) := by decide +kernel
theorem dX8_sell_86 : decode cX8_sell 86 = .ok (.aload_n 0, 1) := by decide +kernel
theorem dX8_sell_87 : decode cX8_sell 87 = .ok (.getfield 7, 3) := by decide +kernel
theorem dX8_sell_90 : decode cX8_sell 90 = .ok (.iload_n 1, 1) := by decide +kernel
theorem dX8_sell_91 : decode cX8_sell 91 = .ok (.bipush 47, 2) := by decide +kernel
theorem dX8_sell_93 : decode cX8_sell 93 = .ok (.iadd, 1) := by decide +kernel
theorem dX8_sell_94 : decode cX8_sell 94 = .ok (.aload_n 0, 1) := by decide +kernel
theorem dX8_sell_95 : decode cX8_sell 95 = .ok (.getfield 7, 3) := by decide +kernel
theorem dX8_sell_98 : decode cX8_sell 98 = .ok (.iload_n 1, 1) := by decide +kernel
theorem dX8_sell_99 : decode cX8_sell 99 = .ok (.bipush 47, 2) := by decide +kernel
theorem dX8_sell_101 : decode cX8_sell 101 = .ok (.iadd, 1) := by decide +kernel
theorem dX8_sell_102 : decode cX8_sell 102 = .ok (.iaload, 1) := by decide +kernel
theorem dX8_sell_103 : decode cX8_sell 103 = .ok (.i2l, 1) := by decide +kernel
theorem dX8_sell_104 : decode cX8_sell 104 = .ok (.lconst 1, 1) := by decide +kernel
theorem dX8_sell_105 : decode cX8_sell 105 = .ok (.ladd, 1) := by decide +kernel
theorem dX8_sell_106 : decode cX8_sell 106 = .ok (.invokestatic 208, 3) := by decide +kernel
theorem dX8_sell_109 : decode cX8_sell 109 = .ok (.iastore, 1) := by decide +kernel
theorem dX8_sell_110 : decode cX8_sell 110 = .ok (.aload_n 0, 1) := by decide +kernel
theorem dX8_sell_111 : decode cX8_sell 111 = .ok (.getfield 7, 3) := by decide +kernel
theorem dX8_sell_114 : decode cX8_sell 114 = .ok (.iload_n 1, 1) := by decide +kernel
theorem dX8_sell_115 : decode cX8_sell 115 = .ok (.bipush 10, 2) := by decide +kernel
theorem dX8_sell_117 : decode cX8_sell 117 = .ok (.iadd, 1) := by decide +kernel
theorem dX8_sell_118 : decode cX8_sell 118 = .ok (.iload_n 2, 1) := by decide +kernel
theorem dX8_sell_119 : decode cX8_sell 119 = .ok (.iadd, 1) := by decide +kernel
theorem dX8_sell_120 : decode cX8_sell 120 = .ok (.dup2, 1) := by decide +kernel
theorem dX8_sell_121 : decode cX8_sell 121 = .ok (.iaload, 1) := by decide +kernel
theorem dX8_sell_122 : decode cX8_sell 122 = .ok (.aload_n 0, 1) := by decide +kernel
theorem dX8_sell_123 : decode cX8_sell 123 = .ok (.getfield 7, 3) := by decide +kernel
theorem dX8_sell_126 : decode cX8_sell 126 = .ok (.iload_n 1, 1) := by decide +kernel
theorem dX8_sell_127 : decode cX8_sell 127 = .ok (.bipush 48, 2) := by decide +kernel
theorem dX8_sell_129 : decode cX8_sell 129 = .ok (.iadd, 1) := by decide +kernel
theorem dX8_sell_130 : decode cX8_sell 130 = .ok (.iaload, 1) := by decide +kernel
theorem dX8_sell_131 : decode cX8_sell 131 = .ok (.iload 4, 2) := by decide +kernel
theorem dX8_sell_133 : decode cX8_sell 133 = .ok (.imul, 1) := by decide +kernel
theorem dX8_sell_134 : decode cX8_sell 134 = .ok (.iadd, 1) := by decide +kernel
theorem dX8_sell_135 : decode cX8_sell 135 = .ok (.iastore, 1) := by decide +kernel
theorem dX8_sell_136 : decode cX8_sell 136 = .ok (.aload_n 0, 1) := by decide +kernel
theorem dX8_sell_137 : decode cX8_sell 137 = .ok (.getfield 7, 3) := by decide +kernel
theorem dX8_sell_140 : decode cX8_sell 140 = .ok (.iload_n 1, 1) := by decide +kernel
theorem dX8_sell_141 : decode cX8_sell 141 = .ok (.bipush 15, 2) := by decide +kernel
theorem dX8_sell_143 : decode cX8_sell 143 = .ok (.iadd, 1) := by decide +kernel
theorem dX8_sell_144 : decode cX8_sell 144 = .ok (.iload_n 2, 1) := by decide +kernel
theorem dX8_sell_145 : decode cX8_sell 145 = .ok (.iadd, 1) := by decide +kernel
theorem dX8_sell_146 : decode cX8_sell 146 = .ok (.iconst 0, 1) := by decide +kernel
theorem dX8_sell_147 : decode cX8_sell 147 = .ok (.iastore, 1) := by decide +kernel
theorem dX8_sell_148 : decode cX8_sell 148 = .ok (.aload_n 0, 1) := by decide +kernel
theorem dX8_sell_149 : decode cX8_sell 149 = .ok (.getfield 7, 3) := by decide +kernel
theorem dX8_sell_152 : decode cX8_sell 152 = .ok (.iload_n 1, 1) := by decide +kernel
theorem dX8_sell_153 : decode cX8_sell 153 = .ok (.bipush 20, 2) := by decide +kernel
theorem dX8_sell_155 : decode cX8_sell 155 = .ok (.iadd, 1) := by decide +kernel
theorem dX8_sell_156 : decode cX8_sell 156 = .ok (.iload_n 2, 1) := by decide +kernel
theorem dX8_sell_157 : decode cX8_sell 157 = .ok (.iadd, 1) := by decide +kernel
theorem dX8_sell_158 : decode cX8_sell 158 = .ok (.iconst 0, 1) := by decide +kernel
theorem dX8_sell_159 : decode cX8_sell 159 = .ok (.iastore, 1) := by decide +kernel
theorem dX8_sell_160 : decode cX8_sell 160 = .ok (.iload 5, 2) := by decide +kernel
theorem dX8_sell_162 : decode cX8_sell 162 = .ok (.ireturn, 1) := by decide +kernel
set_option maxRecDepth 20000 in
theorem ggX8_buy_X8_isColumn : GoodIn wsX8_buy wsX8_isColumn := goodIn_r _ [11, 12, 13, 14, 10, 15, 58, 59, 60, 61, 62, 63, 64, 65, 66, 67, 68, 69, 70, 71, 72, 73, 74, 75, 76, 77, 78, 79, 80, 81, 82, 83, 84, 85, 86, 87, 88, 89, 90, 91, 92] (by decide +kernel) (by decide +kernel)
set_option maxRecDepth 20000 in
theorem gX8_buy_X8_isColumn : GoodIn wsX8_buy (wsV RX8 198 RX8 yX8_isColumn wsX8_isColumn) := goodIn_app (goodIn_of _ (by decide +kernel)) ggX8_buy_X8_isColumn
set_option maxRecDepth 20000 in
theorem ggX8_buy_X8_isKind : GoodIn wsX8_buy wsX8_isKind := goodIn_r _ [19, 20, 13, 14, 10, 15, 58, 59, 60, 61, 62, 63, 64, 65, 66, 67, 68, 69, 70, 71, 72, 73, 74, 75, 76, 77, 78, 79, 80, 81, 82, 83, 84, 85, 86, 87, 88, 89, 90, 91, 92] (by decide +kernel) (by decide +kernel)
set_option maxRecDepth 20000 in
theorem gX8_buy_X8_isKind : GoodIn wsX8_buy (wsV RX8 189 RX8 yX8_isKind wsX8_isKind) := goodIn_app (goodIn_of _ (by decide +kernel)) ggX8_buy_X8_isKind
set_option maxRecDepth 20000 in
theorem ggX8_buy_X8_in : GoodIn wsX8_buy wsX8_in := goodIn_r _ [15] (by decide +kernel) (by decide +kernel)
set_option maxRecDepth 20000 in
theorem gX8_buy_X8_in : GoodIn wsX8_buy (va_wsS RX8 77 yX8_in wsX8_in) := goodIn_app (goodIn_of _ (by decide +kernel)) ggX8_buy_X8_in
set_option maxRecDepth 20000 in
theorem ggX8_buy_X8_canBuy : GoodIn wsX8_buy wsX8_canBuy := goodIn_r _ [24, 6, 5, 25, 26, 27, 10, 28, 29, 30, 31, 32, 33, 13, 14, 15, 58, 59, 60, 61, 62, 63, 64, 65, 66, 67, 68, 69, 70, 71, 72, 73, 74, 75, 76, 77, 78, 79, 80, 81, 82, 83, 84, 85, 86, 87, 88, 89, 90, 91, 92] (by decide +kernel) (by decide +kernel)
set_option maxRecDepth 20000 in
theorem gX8_buy_X8_canBuy : GoodIn wsX8_buy (wsV RX8 224 RX8 yX8_canBuy wsX8_canBuy) := goodIn_app (goodIn_of _ (by decide +kernel)) ggX8_buy_X8_canBuy
set_option maxRecDepth 20000 in
theorem ggX8_buy_X8_sell : GoodIn wsX8_buy wsX8_sell := goodIn_r _ [37, 6, 5, 38, 39, 40, 10, 41, 42, 43, 44, 45, 46, 47, 48, 49, 50, 20, 51, 52, 53, 54, 55, 56, 57, 58, 59, 60, 61, 62, 63, 64, 65, 66, 67, 68, 69, 70, 71, 72, 73, 74, 75, 76, 77, 78, 79, 80, 81, 82, 83, 84, 85, 86, 87, 88, 89, 90, 91, 92] (by decide +kernel) (by decide +kernel)
set_option maxRecDepth 20000 in
theorem gX8_buy_X8_sell : GoodIn wsX8_buy (wsV RX8 229 RX8 yX8_sell wsX8_sell) := goodIn_app (goodIn_of _ (by decide +kernel)) ggX8_buy_X8_sell
theorem dX8_buy_0 : decode cX8_buy 0 = .ok (.aload_n 0, 1) := by decide +kernel
theorem dX8_buy_1 : decode cX8_buy 1 = .ok (.iload_n 1, 1) := by decide +kernel
theorem dX8_buy_2 : decode cX8_buy 2 = .ok (.invokevirtual 198, 3) := by decide +kernel
theorem dX8_buy_5 : decode cX8_buy 5 = .ok (.ifCond .eq 11, 3) := by decide +kernel
theorem dX8_buy_8 : decode cX8_buy 8 = .ok (.aload_n 0, 1) := by decide +kernel
theorem dX8_buy_9 : decode cX8_buy 9 = .ok (.iload_n 2, 1) := by decide +kernel
theorem dX8_buy_10 : decode cX8_buy 10 = .ok (.invokevirtual 189, 3) := by decide +kernel
theorem dX8_buy_13 : decode cX8_buy 13 = .ok (.ifCond .ne 6, 3) := by decide +kernel
theorem dX8_buy_16 : decode cX8_buy 16 = .ok (.ldc 193, 2) := by decide +kernel
theorem dX8_buy_18 : decode cX8_buy 18 = .ok (.ireturn, 1) := by decide +kernel
theorem dX8_buy_19 : decode cX8_buy 19 = .ok (.iload_n 3, 1) := by decide +kernel
theorem dX8_buy_20 : decode cX8_buy 20 = .ok (.i2l, 1) := by decide +kernel
theorem dX8_buy_21 : decode cX8_buy 21 = .ok (.lconst 1, 1) := by decide +kernel
theorem dX8_buy_22 : decode cX8_buy 22 = .ok (.ldc2_w 222, 3) := by decide +kernel
theorem dX8_buy_25 : decode cX8_buy 25 = .ok (.invokestatic 77, 3) := by decide +kernel
theorem dX8_buy_28 : decode cX8_buy 28 = .ok (.ifCond .ne 6, 3) := by decide +kernel
theorem dX8_buy_31 : decode cX8_buy 31 = .ok (.ldc 81, 2) := by decide +kernel
theorem dX8_buy_33 : decode cX8_buy 33 = .ok (.ireturn, 1) := by decide +kernel
theorem dX8_buy_34 : decode cX8_buy 34 = .ok (.aload_n 0, 1) := by decide +kernel
theorem dX8_buy_35 : decode cX8_buy 35 = .ok (.iconst 0, 1) := by decide +kernel
theorem dX8_buy_36 : decode cX8_buy 36 = .ok (.iload_n 1, 1) := by decide +kernel
theorem dX8_buy_37 : decode cX8_buy 37 = .ok (.iload_n 2, 1) := by decide +kernel
theorem dX8_buy_38 : decode cX8_buy 38 = .ok (.iload_n 3, 1) := by decide +kernel
theorem dX8_buy_39 : decode cX8_buy 39 = .ok (.invokevirtual 224, 3) := by decide +kernel
theorem dX8_buy_42 : decode cX8_buy 42 = .ok (.ifCond .ne 6, 3) := by decide +kernel
theorem dX8_buy_45 : decode cX8_buy 45 = .ok (.ldc 228, 2) := by decide +kernel
theorem dX8_buy_47 : decode cX8_buy 47 = .ok (.ireturn, 1) := by decide +kernel
theorem dX8_buy_48 : decode cX8_buy 48 = .ok (.iload_n 3, 1) := by decide +kernel
theorem dX8_buy_49 : decode cX8_buy 49 = .ok (.aload_n 0, 1) := by decide +kernel
theorem dX8_buy_50 : decode cX8_buy 50 = .ok (.getfield 17, 3) := by decide +kernel
theorem dX8_buy_53 : decode cX8_buy 53 = .ok (.iload_n 2, 1) := by decide +kernel
theorem dX8_buy_54 : decode cX8_buy 54 = .ok (.iaload, 1) := by decide +kernel
theorem dX8_buy_55 : decode cX8_buy 55 = .ok (.imul, 1) := by decide +kernel
theorem dX8_buy_56 : decode cX8_buy 56 = .ok (.aload_n 0, 1) := by decide +kernel
theorem dX8_buy_57 : decode cX8_buy 57 = .ok (.getfield 7, 3) := by decide +kernel
theorem dX8_buy_60 : decode cX8_buy 60 = .ok (.bipush 25, 2) := by decide +kernel
theorem dX8_buy_62 : decode cX8_buy 62 = .ok (.iload_n 1, 1) := by decide +kernel
theorem dX8_buy_63 : decode cX8_buy 63 = .ok (.iadd, 1) := by decide +kernel
theorem dX8_buy_64 : decode cX8_buy 64 = .ok (.iaload, 1) := by decide +kernel
theorem dX8_buy_65 : decode cX8_buy 65 = .ok (.isub, 1) := by decide +kernel
theorem dX8_buy_66 : decode cX8_buy 66 = .ok (.istore 4, 2) := by decide +kernel
theorem dX8_buy_68 : decode cX8_buy 68 = .ok (.iload 4, 2) := by decide +kernel
theorem dX8_buy_70 : decode cX8_buy 70 = .ok (.aload_n 0, 1) := by decide +kernel
theorem dX8_buy_71 : decode cX8_buy 71 = .ok (.iconst 0, 1) := by decide +kernel
theorem dX8_buy_72 : decode cX8_buy 72 = .ok (.iload_n 1, 1) := by decide +kernel
theorem dX8_buy_73 : decode cX8_buy 73 = .ok (.iload_n 2, 1) := by decide +kernel
theorem dX8_buy_74 : decode cX8_buy 74 = .ok (.iload_n 3, 1) := by decide +kernel
theorem dX8_buy_75 : decode cX8_buy 75 = .ok (.invokevirtual 229, 3) := by decide +kernel
theorem dX8_buy_78 : decode cX8_buy 78 = .ok (.isub, 1) := by decide +kernel
theorem dX8_buy_79 : decode cX8_buy 79 = .ok (.ireturn, 1) := by decide +kernel
set_option maxRecDepth 20000 in
theorem ggX8_kick_X8_isColumn : GoodIn wsX8_kick wsX8_isColumn := goodIn_r _ [11, 12, 13, 14, 10, 15, 16, 17, 18, 19, 20, 21, 22, 23, 24, 25, 26, 27, 28, 29, 30, 31, 32, 33, 34, 35, 36, 37, 38, 39, 40, 41, 42, 43, 44, 45, 46, 47, 48, 49, 50] (by decide +kernel) (by decide +kernel)
set_option maxRecDepth 20000 in
theorem gX8_kick_X8_isColumn : GoodIn wsX8_kick (wsV RX8 198 RX8 yX8_isColumn wsX8_isColumn) := goodIn_app (goodIn_of _ (by decide +kernel)) ggX8_kick_X8_isColumn
set_option maxRecDepth 20000 in
theorem ggX8_kick_X8_in : GoodIn wsX8_kick wsX8_in := goodIn_r _ [15] (by decide +kernel) (by decide +kernel)
set_option maxRecDepth 20000 in
theorem gX8_kick_X8_in : GoodIn wsX8_kick (va_wsS RX8 77 yX8_in wsX8_in) := goodIn_app (goodIn_of _ (by decide +kernel)) ggX8_kick_X8_in
theorem dX8_kick_0 : decode cX8_kick 0 = .ok (.aload_n 0, 1) := by decide +kernel
theorem dX8_kick_1 : decode cX8_kick 1 = .ok (.iload_n 1, 1) := by decide +kernel
theorem dX8_kick_2 : decode cX8_kick 2 = .ok (.invokevirtual 198, 3) := by decide +kernel
theorem dX8_kick_5 : decode cX8_kick 5 = .ok (.ifCond .ne 6, 3) := by decide +kernel
theorem dX8_kick_8 : decode cX8_kick 8 = .ok (.ldc 193, 2) := by decide +kernel
theorem dX8_kick_10 : decode cX8_kick 10 = .ok (.ireturn, 1) := by decide +kernel
theorem dX8_kick_11 : decode cX8_kick 11 = .ok (.iload_n 2, 1) := by decide +kernel
theorem dX8_kick_12 : decode cX8_kick 12 = .ok (.i2l, 1) := by decide +kernel
theorem dX8_kick_13 : decode cX8_kick 13 = .ok (.lconst 0, 1) := by decide +kernel
theorem dX8_kick_14 : decode cX8_kick 14 = .ok (.lconst 1, 1) := by decide +kernel
theorem dX8_kick_15 : decode cX8_kick 15 = .ok (.invokestatic 77, 3) := by decide +kernel
theorem dX8_kick_18 : decode cX8_kick 18 = .ok (.ifCond .ne 6, 3) := by decide +kernel
theorem dX8_kick_21 : decode cX8_kick 21 = .ok (.ldc 81, 2) := by decide +kernel
theorem dX8_kick_23 : decode cX8_kick 23 = .ok (.ireturn, 1) := by decide +kernel
theorem dX8_kick_24 : decode cX8_kick 24 = .ok (.aload_n 0, 1) := by decide +kernel
theorem dX8_kick_25 : decode cX8_kick 25 = .ok (.getfield 7, 3) := by decide +kernel
theorem dX8_kick_28 : decode cX8_kick 28 = .ok (.bipush 10, 2) := by decide +kernel
theorem dX8_kick_30 : decode cX8_kick 30 = .ok (.iload_n 1, 1) := by decide +kernel
theorem dX8_kick_31 : decode cX8_kick 31 = .ok (.iadd, 1) := by decide +kernel
theorem dX8_kick_32 : decode cX8_kick 32 = .ok (.iaload, 1) := by decide +kernel
theorem dX8_kick_33 : decode cX8_kick 33 = .ok (.bipush 10, 2) := by decide +kernel
theorem dX8_kick_35 : decode cX8_kick 35 = .ok (.if_icmp .ge 6, 3) := by decide +kernel
theorem dX8_kick_38 : decode cX8_kick 38 = .ok (.ldc 228, 2) := by decide +kernel
theorem dX8_kick_40 : decode cX8_kick 40 = .ok (.ireturn, 1) := by decide +kernel
theorem dX8_kick_41 : decode cX8_kick 41 = .ok (.aload_n 0, 1) := by decide +kernel
theorem dX8_kick_42 : decode cX8_kick 42 = .ok (.getfield 41, 3) := by decide +kernel
theorem dX8_kick_45 : decode cX8_kick 45 = .ok (.iload_n 1, 1) := by decide +kernel
theorem dX8_kick_46 : decode cX8_kick 46 = .ok (.iaload, 1) := by decide +kernel
theorem dX8_kick_47 : decode cX8_kick 47 = .ok (.istore_n 3, 1) := by decide +kernel
theorem dX8_kick_48 : decode cX8_kick 48 = .ok (.aload_n 0, 1) := by decide +kernel
theorem dX8_kick_49 : decode cX8_kick 49 = .ok (.getfield 7, 3) := by decide +kernel
theorem dX8_kick_52 : decode cX8_kick 52 = .ok (.bipush 15, 2) := by decide +kernel
theorem dX8_kick_54 : decode cX8_kick 54 = .ok (.iload_n 1, 1) := by decide +kernel
theorem dX8_kick_55 : decode cX8_kick 55 = .ok (.iadd, 1) := by decide +kernel
theorem dX8_kick_56 : decode cX8_kick 56 = .ok (.aload_n 0, 1) := by decide +kernel
theorem dX8_kick_57 : decode cX8_kick 57 = .ok (.getfield 7, 3) := by decide +kernel
theorem dX8_kick_60 : decode cX8_kick 60 = .ok (.bipush 15, 2) := by decide +kernel
theorem dX8_kick_62 : decode cX8_kick 62 = .ok (.iload_n 1, 1) := by decide +kernel
theorem dX8_kick_63 : decode cX8_kick 63 = .ok (.iadd, 1) := by decide +kernel
theorem dX8_kick_64 : decode cX8_kick 64 = .ok (.iaload, 1) := by decide +kernel
theorem dX8_kick_65 : decode cX8_kick 65 = .ok (.iload_n 2, 1) := by decide +kernel
theorem dX8_kick_66 : decode cX8_kick 66 = .ok (.iload_n 3, 1) := by decide +kernel
theorem dX8_kick_67 : decode cX8_kick 67 = .ok (.ishl, 1) := by decide +kernel
theorem dX8_kick_68 : decode cX8_kick 68 = .ok (.ior, 1) := by decide +kernel
theorem dX8_kick_69 : decode cX8_kick 69 = .ok (.iconst 1, 1) := by decide +kernel
