theorem dX8_kick_70 : decode cX8_kick 70 = .ok (.ishr, 1) := by decide +kernel
theorem dX8_kick_71 : decode cX8_kick 71 = .ok (.iastore, 1) := by decide +kernel
theorem dX8_kick_72 : decode cX8_kick 72 = .ok (.aload_n 0, 1) := by decide +kernel
theorem dX8_kick_73 : decode cX8_kick 73 = .ok (.getfield 7, 3) := by decide +kernel
theorem dX8_kick_76 : decode cX8_kick 76 = .ok (.bipush 20, 2) := by decide +kernel
theorem dX8_kick_78 : decode cX8_kick 78 = .ok (.iload_n 1, 1) := by decide +kernel
theorem dX8_kick_79 : decode cX8_kick 79 = .ok (.iadd, 1) := by decide +kernel
theorem dX8_kick_80 : decode cX8_kick 80 = .ok (.aload_n 0, 1) := by decide +kernel
theorem dX8_kick_81 : decode cX8_kick 81 = .ok (.getfield 7, 3) := by decide +kernel
theorem dX8_kick_84 : decode cX8_kick 84 = .ok (.bipush 20, 2) := by decide +kernel
theorem dX8_kick_86 : decode cX8_kick 86 = .ok (.iload_n 1, 1) := by decide +kernel
theorem dX8_kick_87 : decode cX8_kick 87 = .ok (.iadd, 1) := by decide +kernel
theorem dX8_kick_88 : decode cX8_kick 88 = .ok (.iaload, 1) := by decide +kernel
theorem dX8_kick_89 : decode cX8_kick 89 = .ok (.iload_n 3, 1) := by decide +kernel
theorem dX8_kick_90 : decode cX8_kick 90 = .ok (.if_icmp .ge 17, 3) := by decide +kernel
theorem dX8_kick_93 : decode cX8_kick 93 = .ok (.aload_n 0, 1) := by decide +kernel
theorem dX8_kick_94 : decode cX8_kick 94 = .ok (.getfield 7, 3) := by decide +kernel
theorem dX8_kick_97 : decode cX8_kick 97 = .ok (.bipush 20, 2) := by decide +kernel
theorem dX8_kick_99 : decode cX8_kick 99 = .ok (.iload_n 1, 1) := by decide +kernel
theorem dX8_kick_100 : decode cX8_kick 100 = .ok (.iadd, 1) := by decide +kernel
theorem dX8_kick_101 : decode cX8_kick 101 = .ok (.iaload, 1) := by decide +kernel
theorem dX8_kick_102 : decode cX8_kick 102 = .ok (.iconst 1, 1) := by decide +kernel
theorem dX8_kick_103 : decode cX8_kick 103 = .ok (.iadd, 1) := by decide +kernel
theorem dX8_kick_104 : decode cX8_kick 104 = .ok (.goto 4, 3) := by decide +kernel
theorem dX8_kick_107 : decode cX8_kick 107 = .ok (.iload_n 3, 1) := by decide +kernel
theorem dX8_kick_108 : decode cX8_kick 108 = .ok (.iastore, 1) := by decide +kernel
theorem dX8_kick_109 : decode cX8_kick 109 = .ok (.aload_n 0, 1) := by decide +kernel
theorem dX8_kick_110 : decode cX8_kick 110 = .ok (.getfield 7, 3) := by decide +kernel
theorem dX8_kick_113 : decode cX8_kick 113 = .ok (.bipush 20, 2) := by decide +kernel
theorem dX8_kick_115 : decode cX8_kick 115 = .ok (.iload_n 1, 1) := by decide +kernel
theorem dX8_kick_116 : decode cX8_kick 116 = .ok (.iadd, 1) := by decide +kernel
theorem dX8_kick_117 : decode cX8_kick 117 = .ok (.iaload, 1) := by decide +kernel
theorem dX8_kick_118 : decode cX8_kick 118 = .ok (.iload_n 3, 1) := by decide +kernel
theorem dX8_kick_119 : decode cX8_kick 119 = .ok (.if_icmp .lt 21, 3) := by decide +kernel
theorem dX8_kick_122 : decode cX8_kick 122 = .ok (.aload_n 0, 1) := by decide +kernel
theorem dX8_kick_123 : decode cX8_kick 123 = .ok (.getfield 7, 3) := by decide +kernel
theorem dX8_kick_126 : decode cX8_kick 126 = .ok (.bipush 15, 2) := by decide +kernel
theorem dX8_kick_128 : decode cX8_kick 128 = .ok (.iload_n 1, 1) := by decide +kernel
theorem dX8_kick_129 : decode cX8_kick 129 = .ok (.iadd, 1) := by decide +kernel
theorem dX8_kick_130 : decode cX8_kick 130 = .ok (.iaload, 1) := by decide +kernel
theorem dX8_kick_131 : decode cX8_kick 131 = .ok (.aload_n 0, 1) := by decide +kernel
theorem dX8_kick_132 : decode cX8_kick 132 = .ok (.getfield 38, 3) := by decide +kernel
theorem dX8_kick_135 : decode cX8_kick 135 = .ok (.iload_n 1, 1) := by decide +kernel
theorem dX8_kick_136 : decode cX8_kick 136 = .ok (.iaload, 1) := by decide +kernel
theorem dX8_kick_137 : decode cX8_kick 137 = .ok (.if_icmp .eq 5, 3) := by decide +kernel
theorem dX8_kick_140 : decode cX8_kick 140 = .ok (.iconst 0, 1) := by decide +kernel
theorem dX8_kick_141 : decode cX8_kick 141 = .ok (.ireturn, 1) := by decide +kernel
theorem dX8_kick_142 : decode cX8_kick 142 = .ok (.aload_n 0, 1) := by decide +kernel
theorem dX8_kick_143 : decode cX8_kick 143 = .ok (.getfield 7, 3) := by decide +kernel
theorem dX8_kick_146 : decode cX8_kick 146 = .ok (.bipush 10, 2) := by decide +kernel
theorem dX8_kick_148 : decode cX8_kick 148 = .ok (.iload_n 1, 1) := by decide +kernel
theorem dX8_kick_149 : decode cX8_kick 149 = .ok (.iadd, 1) := by decide +kernel
theorem dX8_kick_150 : decode cX8_kick 150 = .ok (.iconst 0, 1) := by decide +kernel
theorem dX8_kick_151 : decode cX8_kick 151 = .ok (.iastore, 1) := by decide +kernel
theorem dX8_kick_152 : decode cX8_kick 152 = .ok (.aload_n 0, 1) := by decide +kernel
theorem dX8_kick_153 : decode cX8_kick 153 = .ok (.getfield 7, 3) := by decide +kernel
theorem dX8_kick_156 : decode cX8_kick 156 = .ok (.bipush 15, 2) := by decide +kernel
theorem dX8_kick_158 : decode cX8_kick 158 = .ok (.iload_n 1, 1) := by decide +kernel
theorem dX8_kick_159 : decode cX8_kick 159 = .ok (.iadd, 1) := by decide +kernel
theorem dX8_kick_160 : decode cX8_kick 160 = .ok (.iconst 0, 1) := by decide +kernel
theorem dX8_kick_161 : decode cX8_kick 161 = .ok (.iastore, 1) := by decide +kernel
theorem dX8_kick_162 : decode cX8_kick 162 = .ok (.aload_n 0, 1) := by decide +kernel
theorem dX8_kick_163 : decode cX8_kick 163 = .ok (.getfield 7, 3) := by decide +kernel
theorem dX8_kick_166 : decode cX8_kick 166 = .ok (.bipush 20, 2) := by decide +kernel
theorem dX8_kick_168 : decode cX8_kick 168 = .ok (.iload_n 1, 1) := by decide +kernel
theorem dX8_kick_169 : decode cX8_kick 169 = .ok (.iadd, 1) := by decide +kernel
theorem dX8_kick_170 : decode cX8_kick 170 = .ok (.iconst 0, 1) := by decide +kernel
theorem dX8_kick_171 : decode cX8_kick 171 = .ok (.iastore, 1) := by decide +kernel
theorem dX8_kick_172 : decode cX8_kick 172 = .ok (.iconst 1, 1) := by decide +kernel
theorem dX8_kick_173 : decode cX8_kick 173 = .ok (.ireturn, 1) := by decide +kernel
theorem dX8_set_0 : decode cX8_set 0 = .ok (.aload_n 0, 1) := by decide +kernel
theorem dX8_set_1 : decode cX8_set 1 = .ok (.getfield 7, 3) := by decide +kernel
theorem dX8_set_4 : decode cX8_set 4 = .ok (.iload_n 1, 1) := by decide +kernel
theorem dX8_set_5 : decode cX8_set 5 = .ok (.iaload, 1) := by decide +kernel
theorem dX8_set_6 : decode cX8_set 6 = .ok (.istore_n 3, 1) := by decide +kernel
theorem dX8_set_7 : decode cX8_set 7 = .ok (.aload_n 0, 1) := by decide +kernel
theorem dX8_set_8 : decode cX8_set 8 = .ok (.getfield 7, 3) := by decide +kernel
theorem dX8_set_11 : decode cX8_set 11 = .ok (.iload_n 1, 1) := by decide +kernel
theorem dX8_set_12 : decode cX8_set 12 = .ok (.iload_n 2, 1) := by decide +kernel
theorem dX8_set_13 : decode cX8_set 13 = .ok (.iastore, 1) := by decide +kernel
theorem dX8_set_14 : decode cX8_set 14 = .ok (.iload_n 3, 1) := by decide +kernel
theorem dX8_set_15 : decode cX8_set 15 = .ok (.ireturn, 1) := by decide +kernel
set_option maxRecDepth 20000 in
theorem ggX8_damp_X8_in : GoodIn wsX8_damp wsX8_in := goodIn_r _ [6] (by decide +kernel) (by decide +kernel)
set_option maxRecDepth 20000 in
theorem gX8_damp_X8_in : GoodIn wsX8_damp (va_wsS RX8 77 yX8_in wsX8_in) := goodIn_app (goodIn_of _ (by decide +kernel)) ggX8_damp_X8_in
set_option maxRecDepth 20000 in
theorem ggX8_damp_X8_set : GoodIn wsX8_damp wsX8_set := goodIn_r _ [10, 11, 12, 13, 14, 15, 16, 17, 18, 19, 20, 21, 22, 23, 24, 25, 26, 27, 28, 29, 30, 31, 32, 33, 34, 35, 36, 37, 38, 39, 40, 41, 42, 43, 44, 45, 46] (by decide +kernel) (by decide +kernel)
set_option maxRecDepth 20000 in
theorem gX8_damp_X8_set : GoodIn wsX8_damp (wsV RX8 235 RX8 yX8_set wsX8_set) := goodIn_app (goodIn_of _ (by decide +kernel)) ggX8_damp_X8_set
theorem dX8_damp_0 : decode cX8_damp 0 = .ok (.iload_n 1, 1) := by decide +kernel
theorem dX8_damp_1 : decode cX8_damp 1 = .ok (.i2l, 1) := by decide +kernel
theorem dX8_damp_2 : decode cX8_damp 2 = .ok (.lconst 0, 1) := by decide +kernel
theorem dX8_damp_3 : decode cX8_damp 3 = .ok (.ldc2_w 233, 3) := by decide +kernel
theorem dX8_damp_6 : decode cX8_damp 6 = .ok (.invokestatic 77, 3) := by decide +kernel
theorem dX8_damp_9 : decode cX8_damp 9 = .ok (.ifCond .eq 13, 3) := by decide +kernel
theorem dX8_damp_12 : decode cX8_damp 12 = .ok (.aload_n 0, 1) := by decide +kernel
theorem dX8_damp_13 : decode cX8_damp 13 = .ok (.bipush 48, 2) := by decide +kernel
theorem dX8_damp_15 : decode cX8_damp 15 = .ok (.iload_n 1, 1) := by decide +kernel
theorem dX8_damp_16 : decode cX8_damp 16 = .ok (.invokevirtual 235, 3) := by decide +kernel
theorem dX8_damp_19 : decode cX8_damp 19 = .ok (.goto 5, 3) := by decide +kernel
theorem dX8_damp_22 : decode cX8_damp 22 = .ok (.ldc 81, 2) := by decide +kernel
theorem dX8_damp_24 : decode cX8_damp 24 = .ok (.ireturn, 1) := by decide +kernel
set_option maxRecDepth 20000 in
theorem ggX8_wear_X8_in : GoodIn wsX8_wear wsX8_in := goodIn_r _ [6] (by decide +kernel) (by decide +kernel)
set_option maxRecDepth 20000 in
theorem gX8_wear_X8_in : GoodIn wsX8_wear (va_wsS RX8 77 yX8_in wsX8_in) := goodIn_app (goodIn_of _ (by decide +kernel)) ggX8_wear_X8_in
set_option maxRecDepth 20000 in
theorem ggX8_wear_X8_set : GoodIn wsX8_wear wsX8_set := goodIn_r _ [10, 11, 12, 13, 14, 15, 16, 17, 18, 19, 20, 21, 22, 23, 24, 25, 26, 27, 28, 29, 30, 31, 32, 33, 34, 35, 36, 37, 38, 39, 40, 41, 42, 43, 44, 45, 46] (by decide +kernel) (by decide +kernel)
set_option maxRecDepth 20000 in
theorem gX8_wear_X8_set : GoodIn wsX8_wear (wsV RX8 235 RX8 yX8_set wsX8_set) := goodIn_app (goodIn_of _ (by decide +kernel)) ggX8_wear_X8_set
theorem dX8_wear_0 : decode cX8_wear 0 = .ok (.iload_n 1, 1) := by decide +kernel
theorem dX8_wear_1 : decode cX8_wear 1 = .ok (.i2l, 1) := by decide +kernel
theorem dX8_wear_2 : decode cX8_wear 2 = .ok (.lconst 0, 1) := by decide +kernel
theorem dX8_wear_3 : decode cX8_wear 3 = .ok (.ldc2_w 233, 3) := by decide +kernel
theorem dX8_wear_6 : decode cX8_wear 6 = .ok (.invokestatic 77, 3) := by decide +kernel
theorem dX8_wear_9 : decode cX8_wear 9 = .ok (.ifCond .eq 13, 3) := by decide +kernel
theorem dX8_wear_12 : decode cX8_wear 12 = .ok (.aload_n 0, 1) := by decide +kernel
theorem dX8_wear_13 : decode cX8_wear 13 = .ok (.bipush 49, 2) := by decide +kernel
theorem dX8_wear_15 : decode cX8_wear 15 = .ok (.iload_n 1, 1) := by decide +kernel
theorem dX8_wear_16 : decode cX8_wear 16 = .ok (.invokevirtual 235, 3) := by decide +kernel
theorem dX8_wear_19 : decode cX8_wear 19 = .ok (.goto 5, 3) := by decide +kernel
theorem dX8_wear_22 : decode cX8_wear 22 = .ok (.ldc 81, 2) := by decide +kernel
theorem dX8_wear_24 : decode cX8_wear 24 = .ok (.ireturn, 1) := by decide +kernel
set_option maxRecDepth 20000 in
theorem ggX8_stock_X8_isColumn : GoodIn wsX8_stock wsX8_isColumn := goodIn_r _ [8, 9, 10, 11, 7, 12, 18, 19, 20, 21, 22, 23, 24, 25, 26, 27, 28, 29, 30, 31, 32, 33, 34, 35, 36, 37, 38, 39, 40, 41, 42, 43, 44, 45, 46, 47, 48, 49, 50, 51, 52] (by decide +kernel) (by decide +kernel)
set_option maxRecDepth 20000 in
theorem gX8_stock_X8_isColumn : GoodIn wsX8_stock (wsV RX8 198 RX8 yX8_isColumn wsX8_isColumn) := goodIn_app (goodIn_of _ (by decide +kernel)) ggX8_stock_X8_isColumn
set_option maxRecDepth 20000 in
theorem ggX8_stock_X8_in : GoodIn wsX8_stock wsX8_in := goodIn_r _ [12] (by decide +kernel) (by decide +kernel)
set_option maxRecDepth 20000 in
theorem gX8_stock_X8_in : GoodIn wsX8_stock (va_wsS RX8 77 yX8_in wsX8_in) := goodIn_app (goodIn_of _ (by decide +kernel)) ggX8_stock_X8_in
set_option maxRecDepth 20000 in
theorem ggX8_stock_X8_set : GoodIn wsX8_stock wsX8_set := goodIn_r _ [16, 17, 18, 19, 20, 21, 22, 23, 24, 25, 26, 27, 28, 29, 30, 31, 32, 33, 34, 35, 36, 37, 38, 39, 40, 41, 42, 43, 44, 45, 46, 47, 48, 49, 50, 51, 52] (by decide +kernel) (by decide +kernel)
set_option maxRecDepth 20000 in
theorem gX8_stock_X8_set : GoodIn wsX8_stock (wsV RX8 235 RX8 yX8_set wsX8_set) := goodIn_app (goodIn_of _ (by decide +kernel)) ggX8_stock_X8_set
theorem dX8_stock_0 : decode cX8_stock 0 = .ok (.aload_n 0, 1) := by decide +kernel
theorem dX8_stock_1 : decode cX8_stock 1 = .ok (.iload_n 1, 1) := by decide +kernel
theorem dX8_stock_2 : decode cX8_stock 2 = .ok (.invokevirtual 198, 3) := by decide +kernel
theorem dX8_stock_5 : decode cX8_stock 5 = .ok (.ifCond .ne 8, 3) := by decide +kernel
theorem dX8_stock_8 : decode cX8_stock 8 = .ok (.ldc 193, 2) := by decide +kernel
theorem dX8_stock_10 : decode cX8_stock 10 = .ok (.goto 28, 3) := by decide +kernel
theorem dX8_stock_13 : decode cX8_stock 13 = .ok (.iload_n 2, 1) := by decide +kernel
theorem dX8_stock_14 : decode cX8_stock 14 = .ok (.i2l, 1) := by decide +kernel
theorem dX8_stock_15 : decode cX8_stock 15 = .ok (.lconst 0, 1) := by decide +kernel
theorem dX8_stock_16 : decode cX8_stock 16 = .ok (.ldc2_w 238, 3) := by decide +kernel
theorem dX8_stock_19 : decode cX8_stock 19 = .ok (.invokestatic 77, 3) := by decide +kernel
theorem dX8_stock_22 : decode cX8_stock 22 = .ok (.ifCond .eq 14, 3) := by decide +kernel
theorem dX8_stock_25 : decode cX8_stock 25 = .ok (.aload_n 0, 1) := by decide +kernel
theorem dX8_stock_26 : decode cX8_stock 26 = .ok (.iconst 5, 1) := by decide +kernel
theorem dX8_stock_27 : decode cX8_stock 27 = .ok (.iload_n 1, 1) := by decide +kernel
theorem dX8_stock_28 : decode cX8_stock 28 = .ok (.iadd, 1) := by decide +kernel
theorem dX8_stock_29 : decode cX8_stock 29 = .ok (.iload_n 2, 1) := by decide +kernel
theorem dX8_stock_30 : decode cX8_stock 30 = .ok (.invokevirtual 235, 3) := by decide +kernel
theorem dX8_stock_33 : decode cX8_stock 33 = .ok (.goto 5, 3) := by decide +kernel
theorem dX8_stock_36 : decode cX8_stock 36 = .ok (.ldc 81, 2) := by decide +kernel
theorem dX8_stock_38 : decode cX8_stock 38 = .ok (.ireturn, 1) := by decide +kernel
set_option maxRecDepth 20000 in
theorem ggX8_tube_X8_isKind : GoodIn wsX8_tube wsX8_isKind := goodIn_r _ [8, 9, 10, 11, 7, 12, 18, 19, 20, 21, 22, 23, 24, 25, 26, 27, 28, 29, 30, 31, 32, 33, 34, 35, 36, 37, 38, 39, 40, 41, 42, 43, 44, 45, 46, 47, 48, 49, 50, 51, 52] (by decide +kernel) (by decide +kernel)
set_option maxRecDepth 20000 in
theorem gX8_tube_X8_isKind : GoodIn wsX8_tube (wsV RX8 189 RX8 yX8_isKind wsX8_isKind) := goodIn_app (goodIn_of _ (by decide +kernel)) ggX8_tube_X8_isKind
set_option maxRecDepth 20000 in
theorem ggX8_tube_X8_in : GoodIn wsX8_tube wsX8_in := goodIn_r _ [12] (by decide +kernel) (by decide +kernel)
set_option maxRecDepth 20000 in
theorem gX8_tube_X8_in : GoodIn wsX8_tube (va_wsS RX8 77 yX8_in wsX8_in) := goodIn_app (goodIn_of _ (by decide +kernel)) ggX8_tube_X8_in
set_option maxRecDepth 20000 in
theorem ggX8_tube_X8_set : GoodIn wsX8_tube wsX8_set := goodIn_r _ [16, 17, 18, 19, 20, 21, 22, 23, 24, 25, 26, 27, 28, 29, 30, 31, 32, 33, 34, 35, 36, 37, 38, 39, 40, 41, 42, 43, 44, 45, 46, 47, 48, 49, 50, 51, 52] (by decide +kernel) (by decide +kernel)
set_option maxRecDepth 20000 in
theorem gX8_tube_X8_set : GoodIn wsX8_tube (wsV RX8 235 RX8 yX8_set wsX8_set) := goodIn_app (goodIn_of _ (by decide +kernel)) ggX8_tube_X8_set
theorem dX8_tube_0 : decode cX8_tube 0 = .ok (.aload_n 0, 1) := by decide +kernel
theorem dX8_tube_1 : decode cX8_tube 1 = .ok (.iload_n 1, 1) := by decide +kernel
theorem dX8_tube_2 : decode cX8_tube 2 = .ok (.invokevirtual 189, 3) := by decide +kernel
theorem dX8_tube_5 : decode cX8_tube 5 = .ok (.ifCond .ne 8, 3) := by decide +kernel
theorem dX8_tube_8 : decode cX8_tube 8 = .ok (.ldc 193, 2) := by decide +kernel
theorem dX8_tube_10 : decode cX8_tube 10 = .ok (.goto 26, 3) := by decide +kernel
theorem dX8_tube_13 : decode cX8_tube 13 = .ok (.iload_n 2, 1) := by decide +kernel
theorem dX8_tube_14 : decode cX8_tube 14 = .ok (.i2l, 1) := by decide +kernel
theorem dX8_tube_15 : decode cX8_tube 15 = .ok (.lconst 0, 1) := by decide +kernel
theorem dX8_tube_16 : decode cX8_tube 16 = .ok (.ldc2_w 238, 3) := by decide +kernel
theorem dX8_tube_19 : decode cX8_tube 19 = .ok (.invokestatic 77, 3) := by decide +kernel
theorem dX8_tube_22 : decode cX8_tube 22 = .ok (.ifCond .eq 12, 3) := by decide +kernel
theorem dX8_tube_25 : decode cX8_tube 25 = .ok (.aload_n 0, 1) := by decide +kernel
theorem dX8_tube_26 : decode cX8_tube 26 = .ok (.iload_n 1, 1) := by decide +kernel
theorem dX8_tube_27 : decode cX8_tube 27 = .ok (.iload_n 2, 1) := by decide +kernel
theorem dX8_tube_28 : decode cX8_tube 28 = .ok (.invokevirtual 235, 3) := by decide +kernel
theorem dX8_tube_31 : decode cX8_tube 31 = .ok (.goto 5, 3) := by decide +kernel
theorem dX8_tube_34 : decode cX8_tube 34 = .ok (.ldc 81, 2) := by decide +kernel
theorem dX8_tube_36 : decode cX8_tube 36 = .ok (.ireturn, 1) := by decide +kernel
set_option maxRecDepth 20000 in
theorem ggX8_price_X8_isColumn : GoodIn wsX8_price wsX8_isColumn := goodIn_r _ [8, 9, 10, 11, 7, 12, 18, 19, 20, 21, 22, 23, 24, 25, 26, 27, 28, 29, 30, 31, 32, 33, 34, 35, 36, 37, 38, 39, 40, 41, 42, 43, 44, 45, 46, 47, 48, 49, 50, 51, 52] (by decide +kernel) (by decide +kernel)
set_option maxRecDepth 20000 in
theorem gX8_price_X8_isColumn : GoodIn wsX8_price (wsV RX8 198 RX8 yX8_isColumn wsX8_isColumn) := goodIn_app (goodIn_of _ (by decide +kernel)) ggX8_price_X8_isColumn
set_option maxRecDepth 20000 in
theorem ggX8_price_X8_in : GoodIn wsX8_price wsX8_in := goodIn_r _ [12] (by decide +kernel) (by decide +kernel)
set_option maxRecDepth 20000 in
theorem gX8_price_X8_in : GoodIn wsX8_price (va_wsS RX8 77 yX8_in wsX8_in) := goodIn_app (goodIn_of _ (by decide +kernel)) ggX8_price_X8_in
set_option maxRecDepth 20000 in
theorem ggX8_price_X8_set : GoodIn wsX8_price wsX8_set := goodIn_r _ [16, 17, 18, 19, 20, 21, 22, 23, 24, 25, 26, 27, 28, 29, 30, 31, 32, 33, 34, 35, 36, 37, 38, 39, 40, 41, 42, 43, 44, 45, 46, 47, 48, 49, 50, 51, 52] (by decide +kernel) (by decide +kernel)
set_option maxRecDepth 20000 in
theorem gX8_price_X8_set : GoodIn wsX8_price (wsV RX8 235 RX8 yX8_set wsX8_set) := goodIn_app (goodIn_of _ (by decide +kernel)) ggX8_price_X8_set
theorem dX8_price_0 : decode cX8_price 0 = .ok (.aload_n 0, 1) := by decide +kernel
theorem dX8_price_1 : decode cX8_price 1 = .ok (.iload_n 1, 1) := by decide +kernel
theorem dX8_price_2 : decode cX8_price 2 = .ok (.invokevirtual 198, 3) := by decide +kernel
theorem dX8_price_5 : decode cX8_price 5 = .ok (.ifCond .ne 8, 3) := by decide +kernel
theorem dX8_price_8 : decode cX8_price 8 = .ok (.ldc 193, 2) := by decide +kernel
theorem dX8_price_10 : decode cX8_price 10 = .ok (.goto 29, 3) := by decide +kernel
theorem dX8_price_13 : decode cX8_price 13 = .ok (.iload_n 2, 1) := by decide +kernel
theorem dX8_price_14 : decode cX8_price 14 = .ok (.i2l, 1) := by decide +kernel
theorem dX8_price_15 : decode cX8_price 15 = .ok (.lconst 1, 1) := by decide +kernel
theorem dX8_price_16 : decode cX8_price 16 = .ok (.ldc2_w 222, 3) := by decide +kernel
theorem dX8_price_19 : decode cX8_price 19 = .ok (.invokestatic 77, 3) := by decide +kernel
theorem dX8_price_22 : decode cX8_price 22 = .ok (.ifCond .eq 15, 3) := by decide +kernel
theorem dX8_price_25 : decode cX8_price 25 = .ok (.aload_n 0, 1) := by decide +kernel
theorem dX8_price_26 : decode cX8_price 26 = .ok (.bipush 25, 2) := by decide +kernel
theorem dX8_price_28 : decode cX8_price 28 = .ok (.iload_n 1, 1) := by decide +kernel
theorem dX8_price_29 : decode cX8_price 29 = .ok (.iadd, 1) := by decide +kernel
theorem dX8_price_30 : decode cX8_price 30 = .ok (.iload_n 2, 1) := by decide +kernel
theorem dX8_price_31 : decode cX8_price 31 = .ok (.invokevirtual 235, 3) := by decide +kernel
theorem dX8_price_34 : decode cX8_price 34 = .ok (.goto 5, 3) := by decide +kernel
theorem dX8_price_37 : decode cX8_price 37 = .ok (.ldc 81, 2) := by decide +kernel
theorem dX8_price_39 : decode cX8_price 39 = .ok (.ireturn, 1) := by decide +kernel
set_option maxRecDepth 20000 in
theorem ggX8_span_X8_isColumn : GoodIn wsX8_span wsX8_isColumn := goodIn_r _ [8, 9, 10, 11, 7, 12, 18, 19, 20, 21, 22, 23, 24, 25, 26, 27, 28, 29, 30, 31, 32, 33, 34, 35, 36, 37, 38, 39, 40, 41, 42, 43, 44, 45, 46, 47, 48, 49, 50, 51, 52] (by decide +kernel) (by decide +kernel)
set_option maxRecDepth 20000 in
theorem gX8_span_X8_isColumn : GoodIn wsX8_span (wsV RX8 198 RX8 yX8_isColumn wsX8_isColumn) := goodIn_app (goodIn_of _ (by decide +kernel)) ggX8_span_X8_isColumn
set_option maxRecDepth 20000 in
theorem ggX8_span_X8_in : GoodIn wsX8_span wsX8_in := goodIn_r _ [12] (by decide +kernel) (by decide +kernel)
set_option maxRecDepth 20000 in
theorem gX8_span_X8_in : GoodIn wsX8_span (va_wsS RX8 77 yX8_in wsX8_in) := goodIn_app (goodIn_of _ (by decide +kernel)) ggX8_span_X8_in
set_option maxRecDepth 20000 in
theorem ggX8_span_X8_set : GoodIn wsX8_span wsX8_set := goodIn_r _ [16, 17, 18, 19, 20, 21, 22, 23, 24, 25, 26, 27, 28, 29, 30, 31, 32, 33, 34, 35, 36, 37, 38, 39, 40, 41, 42, 43, 44, 45, 46, 47, 48, 49, 50, 51, 52] (by decide +kernel) (by decide +kernel)
set_option maxRecDepth 20000 in
theorem gX8_span_X8_set : GoodIn wsX8_span (wsV RX8 235 RX8 yX8_set wsX8_set) := goodIn_app (goodIn_of _ (by decide +kernel)) ggX8_span_X8_set
theorem dX8_span_0 : decode cX8_span 0 = .ok (.aload_n 0, 1) := by decide +kernel
theorem dX8_span_1 : decode cX8_span 1 = .ok (.iload_n 1, 1) := by decide +kernel
theorem dX8_span_2 : decode cX8_span 2 = .ok (.invokevirtual 198, 3) := by decide +kernel
theorem dX8_span_5 : decode cX8_span 5 = .ok (.ifCond .ne 6, 3) := by decide +kernel
theorem dX8_span_8 : decode cX8_span 8 = .ok (.ldc 193, 2) := by decide +kernel
theorem dX8_span_10 : decode cX8_span 10 = .ok (.ireturn, 1) := by decide +kernel
theorem dX8_span_11 : decode cX8_span 11 = .ok (.iload_n 2, 1) := by decide +kernel
theorem dX8_span_12 : decode cX8_span 12 = .ok (.i2l, 1) := by decide +kernel
theorem dX8_span_13 : decode cX8_span 13 = .ok (.lconst 1, 1) := by decide +kernel
theorem dX8_span_14 : decode cX8_span 14 = .ok (.ldc2_w 222, 3) := by decide +kernel
theorem dX8_span_17 : decode cX8_span 17 = .ok (.invokestatic 77, 3) := by decide +kernel
theorem dX8_span_20 : decode cX8_span 20 = .ok (.ifCond .eq 16, 3) := by decide +kernel
theorem dX8_span_23 : decode cX8_span 23 = .ok (.iload_n 3, 1) := by decide +kernel
theorem dX8_span_24 : decode cX8_span 24 = .ok (.i2l, 1) := by decide +kernel
theorem dX8_span_25 : decode cX8_span 25 = .ok (.iload_n 2, 1) := by decide +kernel
theorem dX8_span_26 : decode cX8_span 26 = .ok (.i2l, 1) := by decide +kernel
theorem dX8_span_27 : decode cX8_span 27 = .ok (.ldc2_w 222, 3) := by decide +kernel
theorem dX8_span_30 : decode cX8_span 30 = .ok (.invokestatic 77, 3) := by decide +kernel
theorem dX8_span_33 : decode cX8_span 33 = .ok (.ifCond .ne 6, 3) := by decide +kernel
theorem dX8_span_36 : decode cX8_span 36 = .ok (.ldc 81, 2) := by decide +kernel
theorem dX8_span_38 : decode cX8_span 38 = .ok (.ireturn, 1) := by decide +kernel
theorem dX8_span_39 : decode cX8_span 39 = .ok (.bipush 100, 2) := by decide +kernel
theorem dX8_span_41 : decode cX8_span 41 = .ok (.aload_n 0, 1) := by decide +kernel
theorem dX8_span_42 : decode cX8_span 42 = .ok (.bipush 30, 2) := by decide +kernel
theorem dX8_span_44 : decode cX8_span 44 = .ok (.iload_n 1, 1) := by decide +kernel
theorem dX8_span_45 : decode cX8_span 45 = .ok (.iadd, 1) := by decide +kernel
theorem dX8_span_46 : decode cX8_span 46 = .ok (.iload_n 2, 1) := by decide +kernel
theorem dX8_span_47 : decode cX8_span 47 = .ok (.invokevirtual 235, 3) := by decide +kernel
theorem dX8_span_50 : decode cX8_span 50 = .ok (.imul, 1) := by decide +kernel
theorem dX8_span_51 : decode cX8_span 51 = .ok (.aload_n 0, 1) := by decide +kernel
theorem dX8_span_52 : decode cX8_span 52 = .ok (.bipush 35, 2) := by decide +kernel
theorem dX8_span_54 : decode cX8_span 54 = .ok (.iload_n 1, 1) := by decide +kernel
theorem dX8_span_55 : decode cX8_span 55 = .ok (.iadd, 1) := by decide +kernel
theorem dX8_span_56 : decode cX8_span 56 = .ok (.iload_n 3, 1) := by decide +kernel
theorem dX8_span_57 : decode cX8_span 57 = .ok (.invokevirtual 235, 3) := by decide +kernel
theorem dX8_span_60 : decode cX8_span 60 = .ok (.iadd, 1) := by decide +kernel
theorem dX8_span_61 : decode cX8_span 61 = .ok (.ireturn, 1) := by decide +kernel
set_option maxRecDepth 20000 in
theorem ggX8_wire_X8_isColumn : GoodIn wsX8_wire wsX8_isColumn := goodIn_r _ [6, 7, 8, 9, 5, 10, 16, 17, 18, 19, 20, 21, 22, 23, 24, 25, 26, 27, 28, 29, 30, 31, 32, 33, 34, 35, 36, 37, 38, 39, 40, 41, 42, 43, 44, 45, 46, 47, 48, 49, 50] (by decide +kernel) (by decide +kernel)
set_option maxRecDepth 20000 in
theorem gX8_wire_X8_isColumn : GoodIn wsX8_wire (wsV RX8 198 RX8 yX8_isColumn wsX8_isColumn) := goodIn_app (goodIn_of _ (by decide +kernel)) ggX8_wire_X8_isColumn
set_option maxRecDepth 20000 in
theorem ggX8_wire_X8_set : GoodIn wsX8_wire wsX8_set := goodIn_r _ [14, 15, 16, 17, 18, 19, 20, 21, 22, 23, 24, 25, 26, 27, 28, 29, 30, 31, 32, 33, 34, 35, 36, 37, 38, 39, 40, 41, 42, 43, 44, 45, 46, 47, 48, 49, 50] (by decide +kernel) (by decide +kernel)
set_option maxRecDepth 20000 in
theorem gX8_wire_X8_set : GoodIn wsX8_wire (wsV RX8 235 RX8 yX8_set wsX8_set) := goodIn_app (goodIn_of _ (by decide +kernel)) ggX8_wire_X8_set
theorem dX8_wire_0 : decode cX8_wire 0 = .ok (.aload_n 0, 1) := by decide +kernel
theorem dX8_wire_1 : decode cX8_wire 1 = .ok (.iload_n 1, 1) := by decide +kernel
theorem dX8_wire_2 : decode cX8_wire 2 = .ok (.invokevirtual 198, 3) := by decide +kernel
theorem dX8_wire_5 : decode cX8_wire 5 = .ok (.ifCond .eq 23, 3) := by decide +kernel
theorem dX8_wire_8 : decode cX8_wire 8 = .ok (.aload_n 0, 1) := by decide +kernel
theorem dX8_wire_9 : decode cX8_wire 9 = .ok (.iload_n 2, 1) := by decide +kernel
theorem dX8_wire_10 : decode cX8_wire 10 = .ok (.invokevirtual 198, 3) := by decide +kernel
theorem dX8_wire_13 : decode cX8_wire 13 = .ok (.ifCond .eq 15, 3) := by decide +kernel
theorem dX8_wire_16 : decode cX8_wire 16 = .ok (.aload_n 0, 1) := by decide +kernel
theorem dX8_wire_17 : decode cX8_wire 17 = .ok (.bipush 40, 2) := by decide +kernel
theorem dX8_wire_19 : decode cX8_wire 19 = .ok (.iload_n 1, 1) := by decide +kernel
theorem dX8_wire_20 : decode cX8_wire 20 = .ok (.iadd, 1) := by decide +kernel
theorem dX8_wire_21 : decode cX8_wire 21 = .ok (.iload_n 2, 1) := by decide +kernel
theorem dX8_wire_22 : decode cX8_wire 22 = .ok (.invokevirtual 235, 3) := by decide +kernel
theorem dX8_wire_25 : decode cX8_wire 25 = .ok (.goto 5, 3) := by decide +kernel
theorem dX8_wire_28 : decode cX8_wire 28 = .ok (.ldc 193, 2) := by decide +kernel
theorem dX8_wire_30 : decode cX8_wire 30 = .ok (.ireturn, 1) := by decide +kernel
theorem dX8_draw_0 : decode cX8_draw 0 = .ok (.aload_n 0, 1) := by decide +kernel
