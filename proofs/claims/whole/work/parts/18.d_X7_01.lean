theorem dX7_told_151 : decode cX7_told 151 = .ok (.ireturn, 1) := by decide +kernel
theorem dX7_told_152 : decode cX7_told 152 = .ok (.aload_n 0, 1) := by decide +kernel
theorem dX7_told_153 : decode cX7_told 153 = .ok (.getfield 64, 3) := by decide +kernel
theorem dX7_told_156 : decode cX7_told 156 = .ok (.aload_n 0, 1) := by decide +kernel
theorem dX7_told_157 : decode cX7_told 157 = .ok (.getfield 68, 3) := by decide +kernel
theorem dX7_told_160 : decode cX7_told 160 = .ok (.invokevirtual 129, 3) := by decide +kernel
theorem dX7_told_163 : decode cX7_told 163 = .ok (.ireturn, 1) := by decide +kernel
theorem dX7_told_164 : decode cX7_told 164 = .ok (.ldc 75, 2) := by decide +kernel
theorem dX7_told_166 : decode cX7_told 166 = .ok (.ireturn, 1) := by decide +kernel
set_option maxRecDepth 20000 in
theorem ggX7_coin_X1_isKind : GoodIn wsX7_coin wsX1_isKind := goodIn_r _ [9, 10, 37, 38, 39, 40, 41, 42, 43, 44, 45] (by decide +kernel) (by decide +kernel)
set_option maxRecDepth 20000 in
theorem gX7_coin_X1_isKind : GoodIn wsX7_coin (wsV RX7 133 RX1 yX1_isKind wsX1_isKind) := goodIn_app (goodIn_of _ (by decide +kernel)) ggX7_coin_X1_isKind
set_option maxRecDepth 20000 in
theorem ggX7_coin_X1_weightNow : GoodIn wsX7_coin wsX1_weightNow := goodIn_r _ [14, 15, 37, 38, 39, 40, 41, 42, 43, 44, 45, 46, 47, 48, 49, 50, 51, 52, 53, 54, 55, 56, 57, 58, 59, 60] (by decide +kernel) (by decide +kernel)
set_option maxRecDepth 20000 in
theorem gX7_coin_X1_weightNow : GoodIn wsX7_coin (wsV RX7 145 RX1 yX1_weightNow wsX1_weightNow) := goodIn_app (goodIn_of _ (by decide +kernel)) ggX7_coin_X1_weightNow
set_option maxRecDepth 20000 in
theorem ggX7_coin_X1_columnsPassedBy : GoodIn wsX7_coin wsX1_columnsPassedBy := goodIn_r _ [19, 20, 21, 22, 23, 8, 24, 25, 12, 13, 14, 15, 37, 38, 39, 40, 41, 42, 43, 44, 45, 46, 47, 48, 49, 50, 51, 52, 53, 54, 55, 56, 57, 58, 59, 60] (by decide +kernel) (by decide +kernel)
set_option maxRecDepth 20000 in
theorem gX7_coin_X1_columnsPassedBy : GoodIn wsX7_coin (wsV RX7 152 RX1 yX1_columnsPassedBy wsX1_columnsPassedBy) := goodIn_app (goodIn_of _ (by decide +kernel)) ggX7_coin_X1_columnsPassedBy
theorem dX7_coin_0 : decode cX7_coin 0 = .ok (.aload_n 0, 1) := by decide +kernel
theorem dX7_coin_1 : decode cX7_coin 1 = .ok (.getfield 64, 3) := by decide +kernel
theorem dX7_coin_4 : decode cX7_coin 4 = .ok (.iload_n 1, 1) := by decide +kernel
theorem dX7_coin_5 : decode cX7_coin 5 = .ok (.invokevirtual 133, 3) := by decide +kernel
theorem dX7_coin_8 : decode cX7_coin 8 = .ok (.ifCond .ne 6, 3) := by decide +kernel
theorem dX7_coin_11 : decode cX7_coin 11 = .ok (.ldc 137, 2) := by decide +kernel
theorem dX7_coin_13 : decode cX7_coin 13 = .ok (.ireturn, 1) := by decide +kernel
theorem dX7_coin_14 : decode cX7_coin 14 = .ok (.iload_n 2, 1) := by decide +kernel
theorem dX7_coin_15 : decode cX7_coin 15 = .ok (.tableswitch 89 0 4 #[33, 43, 53, 66, 76], 33) := by decide +kernel
theorem dX7_coin_48 : decode cX7_coin 48 = .ok (.aload_n 0, 1) := by decide +kernel
theorem dX7_coin_49 : decode cX7_coin 49 = .ok (.getfield 64, 3) := by decide +kernel
theorem dX7_coin_52 : decode cX7_coin 52 = .ok (.getfield 138, 3) := by decide +kernel
theorem dX7_coin_55 : decode cX7_coin 55 = .ok (.iload_n 1, 1) := by decide +kernel
theorem dX7_coin_56 : decode cX7_coin 56 = .ok (.iaload, 1) := by decide +kernel
theorem dX7_coin_57 : decode cX7_coin 57 = .ok (.ireturn, 1) := by decide +kernel
theorem dX7_coin_58 : decode cX7_coin 58 = .ok (.aload_n 0, 1) := by decide +kernel
theorem dX7_coin_59 : decode cX7_coin 59 = .ok (.getfield 64, 3) := by decide +kernel
theorem dX7_coin_62 : decode cX7_coin 62 = .ok (.getfield 142, 3) := by decide +kernel
theorem dX7_coin_65 : decode cX7_coin 65 = .ok (.iload_n 1, 1) := by decide +kernel
theorem dX7_coin_66 : decode cX7_coin 66 = .ok (.iaload, 1) := by decide +kernel
theorem dX7_coin_67 : decode cX7_coin 67 = .ok (.ireturn, 1) := by decide +kernel
theorem dX7_coin_68 : decode cX7_coin 68 = .ok (.aload_n 0, 1) := by decide +kernel
theorem dX7_coin_69 : decode cX7_coin 69 = .ok (.getfield 64, 3) := by decide +kernel
theorem dX7_coin_72 : decode cX7_coin 72 = .ok (.aload_n 0, 1) := by decide +kernel
theorem dX7_coin_73 : decode cX7_coin 73 = .ok (.getfield 68, 3) := by decide +kernel
theorem dX7_coin_76 : decode cX7_coin 76 = .ok (.iload_n 1, 1) := by decide +kernel
theorem dX7_coin_77 : decode cX7_coin 77 = .ok (.invokevirtual 145, 3) := by decide +kernel
theorem dX7_coin_80 : decode cX7_coin 80 = .ok (.ireturn, 1) := by decide +kernel
theorem dX7_coin_81 : decode cX7_coin 81 = .ok (.aload_n 0, 1) := by decide +kernel
theorem dX7_coin_82 : decode cX7_coin 82 = .ok (.getfield 68, 3) := by decide +kernel
theorem dX7_coin_85 : decode cX7_coin 85 = .ok (.getfield 149, 3) := by decide +kernel
theorem dX7_coin_88 : decode cX7_coin 88 = .ok (.iload_n 1, 1) := by decide +kernel
theorem dX7_coin_89 : decode cX7_coin 89 = .ok (.iaload, 1) := by decide +kernel
theorem dX7_coin_90 : decode cX7_coin 90 = .ok (.ireturn, 1) := by decide +kernel
theorem dX7_coin_91 : decode cX7_coin 91 = .ok (.aload_n 0, 1) := by decide +kernel
theorem dX7_coin_92 : decode cX7_coin 92 = .ok (.getfield 64, 3) := by decide +kernel
theorem dX7_coin_95 : decode cX7_coin 95 = .ok (.aload_n 0, 1) := by decide +kernel
theorem dX7_coin_96 : decode cX7_coin 96 = .ok (.getfield 68, 3) := by decide +kernel
theorem dX7_coin_99 : decode cX7_coin 99 = .ok (.iload_n 1, 1) := by decide +kernel
theorem dX7_coin_100 : decode cX7_coin 100 = .ok (.invokevirtual 152, 3) := by decide +kernel
theorem dX7_coin_103 : decode cX7_coin 103 = .ok (.ireturn, 1) := by decide +kernel
theorem dX7_coin_104 : decode cX7_coin 104 = .ok (.ldc 75, 2) := by decide +kernel
theorem dX7_coin_106 : decode cX7_coin 106 = .ok (.ireturn, 1) := by decide +kernel
set_option maxRecDepth 20000 in
theorem ggX7_column_X1_isColumn : GoodIn wsX7_column wsX1_isColumn := goodIn_r _ [9, 10, 59, 60, 61, 62, 63, 64, 65, 66, 67] (by decide +kernel) (by decide +kernel)
set_option maxRecDepth 20000 in
theorem gX7_column_X1_isColumn : GoodIn wsX7_column (wsV RX7 155 RX1 yX1_isColumn wsX1_isColumn) := goodIn_app (goodIn_of _ (by decide +kernel)) ggX7_column_X1_isColumn
set_option maxRecDepth 20000 in
theorem ggX7_column_X4_isJammed : GoodIn wsX7_column wsX4_isJammed := goodIn_r _ [15, 16, 44, 45, 46, 47, 48, 49, 50, 51, 52, 53, 54, 55, 56, 57, 58] (by decide +kernel) (by decide +kernel)
set_option maxRecDepth 20000 in
theorem gX7_column_X4_isJammed : GoodIn wsX7_column (wsV RX7 173 RX4 yX4_isJammed wsX4_isJammed) := goodIn_app (goodIn_of _ (by decide +kernel)) ggX7_column_X4_isJammed
set_option maxRecDepth 20000 in
theorem ggX7_column_X1_kindsWithin : GoodIn wsX7_column wsX1_kindsWithin := goodIn_r _ [20, 21, 22, 23, 24, 8, 25, 26, 59, 60, 61, 62, 63, 64, 65, 66, 67, 44, 45, 46, 47, 48, 49, 50, 51, 52, 53, 54, 55, 56, 57, 58] (by decide +kernel) (by decide +kernel)
set_option maxRecDepth 20000 in
theorem gX7_column_X1_kindsWithin : GoodIn wsX7_column (wsV RX7 179 RX1 yX1_kindsWithin wsX1_kindsWithin) := goodIn_app (goodIn_of _ (by decide +kernel)) ggX7_column_X1_kindsWithin
set_option maxRecDepth 20000 in
theorem ggX7_column_X1_slugsWithin : GoodIn wsX7_column wsX1_slugsWithin := goodIn_r _ [30, 31, 32, 59, 60, 61, 62, 63, 64, 65, 66, 67] (by decide +kernel) (by decide +kernel)
set_option maxRecDepth 20000 in
theorem gX7_column_X1_slugsWithin : GoodIn wsX7_column (wsV RX7 183 RX1 yX1_slugsWithin wsX1_slugsWithin) := goodIn_app (goodIn_of _ (by decide +kernel)) ggX7_column_X1_slugsWithin
theorem dX7_column_0 : decode cX7_column 0 = .ok (.aload_n 0, 1) := by decide +kernel
theorem dX7_column_1 : decode cX7_column 1 = .ok (.getfield 64, 3) := by decide +kernel
theorem dX7_column_4 : decode cX7_column 4 = .ok (.iload_n 1, 1) := by decide +kernel
theorem dX7_column_5 : decode cX7_column 5 = .ok (.invokevirtual 155, 3) := by decide +kernel
theorem dX7_column_8 : decode cX7_column 8 = .ok (.ifCond .ne 6, 3) := by decide +kernel
theorem dX7_column_11 : decode cX7_column 11 = .ok (.ldc 137, 2) := by decide +kernel
theorem dX7_column_13 : decode cX7_column 13 = .ok (.ireturn, 1) := by decide +kernel
theorem dX7_column_14 : decode cX7_column 14 = .ok (.iload_n 2, 1) := by decide +kernel
theorem dX7_column_15 : decode cX7_column 15 = .ok (.tableswitch 182 0 8 #[49, 59, 69, 79, 89, 99, 116, 126, 156], 49) := by decide +kernel
theorem dX7_column_64 : decode cX7_column 64 = .ok (.aload_n 0, 1) := by decide +kernel
theorem dX7_column_65 : decode cX7_column 65 = .ok (.getfield 68, 3) := by decide +kernel
theorem dX7_column_68 : decode cX7_column 68 = .ok (.getfield 158, 3) := by decide +kernel
theorem dX7_column_71 : decode cX7_column 71 = .ok (.iload_n 1, 1) := by decide +kernel
theorem dX7_column_72 : decode cX7_column 72 = .ok (.iaload, 1) := by decide +kernel
theorem dX7_column_73 : decode cX7_column 73 = .ok (.ireturn, 1) := by decide +kernel
theorem dX7_column_74 : decode cX7_column 74 = .ok (.aload_n 0, 1) := by decide +kernel
theorem dX7_column_75 : decode cX7_column 75 = .ok (.getfield 68, 3) := by decide +kernel
theorem dX7_column_78 : decode cX7_column 78 = .ok (.getfield 161, 3) := by decide +kernel
theorem dX7_column_81 : decode cX7_column 81 = .ok (.iload_n 1, 1) := by decide +kernel
theorem dX7_column_82 : decode cX7_column 82 = .ok (.iaload, 1) := by decide +kernel
theorem dX7_column_83 : decode cX7_column 83 = .ok (.ireturn, 1) := by decide +kernel
theorem dX7_column_84 : decode cX7_column 84 = .ok (.aload_n 0, 1) := by decide +kernel
theorem dX7_column_85 : decode cX7_column 85 = .ok (.getfield 68, 3) := by decide +kernel
theorem dX7_column_88 : decode cX7_column 88 = .ok (.getfield 164, 3) := by decide +kernel
theorem dX7_column_91 : decode cX7_column 91 = .ok (.iload_n 1, 1) := by decide +kernel
theorem dX7_column_92 : decode cX7_column 92 = .ok (.iaload, 1) := by decide +kernel
theorem dX7_column_93 : decode cX7_column 93 = .ok (.ireturn, 1) := by decide +kernel
theorem dX7_column_94 : decode cX7_column 94 = .ok (.aload_n 0, 1) := by decide +kernel
theorem dX7_column_95 : decode cX7_column 95 = .ok (.getfield 68, 3) := by decide +kernel
theorem dX7_column_98 : decode cX7_column 98 = .ok (.getfield 167, 3) := by decide +kernel
theorem dX7_column_101 : decode cX7_column 101 = .ok (.iload_n 1, 1) := by decide +kernel
theorem dX7_column_102 : decode cX7_column 102 = .ok (.iaload, 1) := by decide +kernel
theorem dX7_column_103 : decode cX7_column 103 = .ok (.ireturn, 1) := by decide +kernel
theorem dX7_column_104 : decode cX7_column 104 = .ok (.aload_n 0, 1) := by decide +kernel
theorem dX7_column_105 : decode cX7_column 105 = .ok (.getfield 68, 3) := by decide +kernel
theorem dX7_column_108 : decode cX7_column 108 = .ok (.getfield 170, 3) := by decide +kernel
theorem dX7_column_111 : decode cX7_column 111 = .ok (.iload_n 1, 1) := by decide +kernel
theorem dX7_column_112 : decode cX7_column 112 = .ok (.iaload, 1) := by decide +kernel
theorem dX7_column_113 : decode cX7_column 113 = .ok (.ireturn, 1) := by decide +kernel
theorem dX7_column_114 : decode cX7_column 114 = .ok (.aload_n 0, 1) := by decide +kernel
theorem dX7_column_115 : decode cX7_column 115 = .ok (.getfield 68, 3) := by decide +kernel
theorem dX7_column_118 : decode cX7_column 118 = .ok (.iload_n 1, 1) := by decide +kernel
theorem dX7_column_119 : decode cX7_column 119 = .ok (.invokevirtual 173, 3) := by decide +kernel
theorem dX7_column_122 : decode cX7_column 122 = .ok (.ifCond .eq 7, 3) := by decide +kernel
theorem dX7_column_125 : decode cX7_column 125 = .ok (.iconst 1, 1) := by decide +kernel
theorem dX7_column_126 : decode cX7_column 126 = .ok (.goto 4, 3) := by decide +kernel
theorem dX7_column_129 : decode cX7_column 129 = .ok (.iconst 0, 1) := by decide +kernel
theorem dX7_column_130 : decode cX7_column 130 = .ok (.ireturn, 1) := by decide +kernel
theorem dX7_column_131 : decode cX7_column 131 = .ok (.aload_n 0, 1) := by decide +kernel
theorem dX7_column_132 : decode cX7_column 132 = .ok (.getfield 68, 3) := by decide +kernel
theorem dX7_column_135 : decode cX7_column 135 = .ok (.getfield 176, 3) := by decide +kernel
theorem dX7_column_138 : decode cX7_column 138 = .ok (.iload_n 1, 1) := by decide +kernel
theorem dX7_column_139 : decode cX7_column 139 = .ok (.iaload, 1) := by decide +kernel
theorem dX7_column_140 : decode cX7_column 140 = .ok (.ireturn, 1) := by decide +kernel
theorem dX7_column_141 : decode cX7_column 141 = .ok (.aload_n 0, 1) := by decide +kernel
theorem dX7_column_142 : decode cX7_column 142 = .ok (.getfield 64, 3) := by decide +kernel
theorem dX7_column_145 : decode cX7_column 145 = .ok (.aload_n 0, 1) := by decide +kernel
theorem dX7_column_146 : decode cX7_column 146 = .ok (.getfield 68, 3) := by decide +kernel
theorem dX7_column_149 : decode cX7_column 149 = .ok (.aload_n 0, 1) := by decide +kernel
theorem dX7_column_150 : decode cX7_column 150 = .ok (.getfield 68, 3) := by decide +kernel
theorem dX7_column_153 : decode cX7_column 153 = .ok (.getfield 161, 3) := by decide +kernel
theorem dX7_column_156 : decode cX7_column 156 = .ok (.iload_n 1, 1) := by decide +kernel
theorem dX7_column_157 : decode cX7_column 157 = .ok (.iaload, 1) := by decide +kernel
theorem dX7_column_158 : decode cX7_column 158 = .ok (.aload_n 0, 1) := by decide +kernel
theorem dX7_column_159 : decode cX7_column 159 = .ok (.getfield 68, 3) := by decide +kernel
theorem dX7_column_162 : decode cX7_column 162 = .ok (.getfield 164, 3) := by decide +kernel
theorem dX7_column_165 : decode cX7_column 165 = .ok (.iload_n 1, 1) := by decide +kernel
theorem dX7_column_166 : decode cX7_column 166 = .ok (.iaload, 1) := by decide +kernel
theorem dX7_column_167 : decode cX7_column 167 = .ok (.invokevirtual 179, 3) := by decide +kernel
theorem dX7_column_170 : decode cX7_column 170 = .ok (.ireturn, 1) := by decide +kernel
theorem dX7_column_171 : decode cX7_column 171 = .ok (.aload_n 0, 1) := by decide +kernel
theorem dX7_column_172 : decode cX7_column 172 = .ok (.getfield 64, 3) := by decide +kernel
theorem dX7_column_175 : decode cX7_column 175 = .ok (.aload_n 0, 1) := by decide +kernel
theorem dX7_column_176 : decode cX7_column 176 = .ok (.getfield 68, 3) := by decide +kernel
theorem dX7_column_179 : decode cX7_column 179 = .ok (.getfield 161, 3) := by decide +kernel
theorem dX7_column_182 : decode cX7_column 182 = .ok (.iload_n 1, 1) := by decide +kernel
theorem dX7_column_183 : decode cX7_column 183 = .ok (.iaload, 1) := by decide +kernel
theorem dX7_column_184 : decode cX7_column 184 = .ok (.aload_n 0, 1) := by decide +kernel
theorem dX7_column_185 : decode cX7_column 185 = .ok (.getfield 68, 3) := by decide +kernel
theorem dX7_column_188 : decode cX7_column 188 = .ok (.getfield 164, 3) := by decide +kernel
theorem dX7_column_191 : decode cX7_column 191 = .ok (.iload_n 1, 1) := by decide +kernel
theorem dX7_column_192 : decode cX7_column 192 = .ok (.iaload, 1) := by decide +kernel
theorem dX7_column_193 : decode cX7_column 193 = .ok (.invokevirtual 183, 3) := by decide +kernel
theorem dX7_column_196 : decode cX7_column 196 = .ok (.ireturn, 1) := by decide +kernel
theorem dX7_column_197 : decode cX7_column 197 = .ok (.ldc 75, 2) := by decide +kernel
theorem dX7_column_199 : decode cX7_column 199 = .ok (.ireturn, 1) := by decide +kernel
set_option maxRecDepth 20000 in
theorem ggX7_buy_X1_isColumn : GoodIn wsX7_buy wsX1_isColumn := goodIn_r _ [9, 10, 73, 74, 75, 76, 77, 78, 79, 80, 81] (by decide +kernel) (by decide +kernel)
set_option maxRecDepth 20000 in
theorem gX7_buy_X1_isColumn : GoodIn wsX7_buy (wsV RX7 155 RX1 yX1_isColumn wsX1_isColumn) := goodIn_app (goodIn_of _ (by decide +kernel)) ggX7_buy_X1_isColumn
set_option maxRecDepth 20000 in
theorem ggX7_buy_X1_isKind : GoodIn wsX7_buy wsX1_isKind := goodIn_r _ [14, 15, 73, 74, 75, 76, 77, 78, 79, 80, 81] (by decide +kernel) (by decide +kernel)
set_option maxRecDepth 20000 in
theorem gX7_buy_X1_isKind : GoodIn wsX7_buy (wsV RX7 133 RX1 yX1_isKind wsX1_isKind) := goodIn_app (goodIn_of _ (by decide +kernel)) ggX7_buy_X1_isKind
set_option maxRecDepth 20000 in
theorem ggX7_buy_X1_sell : GoodIn wsX7_buy wsX1_sell := goodIn_r _ [19, 20, 21, 22, 23, 24, 25, 26, 27, 28, 8, 29, 30, 31, 32, 33, 34, 35, 36, 37, 38, 39, 40, 41, 42, 43, 44, 45, 46, 47, 48, 49, 50, 51, 52, 53, 54, 55, 56, 57, 58, 59, 60, 15, 61, 82, 83, 84, 85, 86, 87, 88, 89, 90, 91, 92, 93, 94, 95, 96, 73, 74, 75, 76, 77, 78, 79, 80, 81] (by decide +kernel) (by decide +kernel)
set_option maxRecDepth 20000 in
theorem gX7_buy_X1_sell : GoodIn wsX7_buy (wsV RX7 187 RX1 yX1_sell wsX1_sell) := goodIn_app (goodIn_of _ (by decide +kernel)) ggX7_buy_X1_sell
theorem dX7_buy_0 : decode cX7_buy 0 = .ok (.aload_n 0, 1) := by decide +kernel
theorem dX7_buy_1 : decode cX7_buy 1 = .ok (.getfield 64, 3) := by decide +kernel
theorem dX7_buy_4 : decode cX7_buy 4 = .ok (.iload_n 1, 1) := by decide +kernel
theorem dX7_buy_5 : decode cX7_buy 5 = .ok (.invokevirtual 155, 3) := by decide +kernel
theorem dX7_buy_8 : decode cX7_buy 8 = .ok (.ifCond .eq 14, 3) := by decide +kernel
theorem dX7_buy_11 : decode cX7_buy 11 = .ok (.aload_n 0, 1) := by decide +kernel
theorem dX7_buy_12 : decode cX7_buy 12 = .ok (.getfield 64, 3) := by decide +kernel
theorem dX7_buy_15 : decode cX7_buy 15 = .ok (.iload_n 2, 1) := by decide +kernel
theorem dX7_buy_16 : decode cX7_buy 16 = .ok (.invokevirtual 133, 3) := by decide +kernel
theorem dX7_buy_19 : decode cX7_buy 19 = .ok (.ifCond .ne 6, 3) := by decide +kernel
theorem dX7_buy_22 : decode cX7_buy 22 = .ok (.ldc 137, 2) := by decide +kernel
theorem dX7_buy_24 : decode cX7_buy 24 = .ok (.ireturn, 1) := by decide +kernel
theorem dX7_buy_25 : decode cX7_buy 25 = .ok (.iload_n 3, 1) := by decide +kernel
theorem dX7_buy_26 : decode cX7_buy 26 = .ok (.iconst 1, 1) := by decide +kernel
theorem dX7_buy_27 : decode cX7_buy 27 = .ok (.if_icmp .lt 9, 3) := by decide +kernel
theorem dX7_buy_30 : decode cX7_buy 30 = .ok (.iload_n 3, 1) := by decide +kernel
theorem dX7_buy_31 : decode cX7_buy 31 = .ok (.bipush 99, 2) := by decide +kernel
theorem dX7_buy_33 : decode cX7_buy 33 = .ok (.if_icmp .le 6, 3) := by decide +kernel
theorem dX7_buy_36 : decode cX7_buy 36 = .ok (.ldc 75, 2) := by decide +kernel
theorem dX7_buy_38 : decode cX7_buy 38 = .ok (.ireturn, 1) := by decide +kernel
theorem dX7_buy_39 : decode cX7_buy 39 = .ok (.aload_n 0, 1) := by decide +kernel
theorem dX7_buy_40 : decode cX7_buy 40 = .ok (.getfield 64, 3) := by decide +kernel
theorem dX7_buy_43 : decode cX7_buy 43 = .ok (.aload_n 0, 1) := by decide +kernel
theorem dX7_buy_44 : decode cX7_buy 44 = .ok (.getfield 68, 3) := by decide +kernel
theorem dX7_buy_47 : decode cX7_buy 47 = .ok (.iload_n 1, 1) := by decide +kernel
theorem dX7_buy_48 : decode cX7_buy 48 = .ok (.iload_n 2, 1) := by decide +kernel
theorem dX7_buy_49 : decode cX7_buy 49 = .ok (.iload_n 3, 1) := by decide +kernel
theorem dX7_buy_50 : decode cX7_buy 50 = .ok (.invokevirtual 187, 3) := by decide +kernel
theorem dX7_buy_53 : decode cX7_buy 53 = .ok (.ireturn, 1) := by decide +kernel
set_option maxRecDepth 20000 in
theorem ggX7_kick_X1_isColumn : GoodIn wsX7_kick wsX1_isColumn := goodIn_r _ [10, 11, 64, 65, 66, 67, 68, 69, 70, 71, 72] (by decide +kernel) (by decide +kernel)
set_option maxRecDepth 20000 in
theorem gX7_kick_X1_isColumn : GoodIn wsX7_kick (wsV RX7 155 RX1 yX1_isColumn wsX1_isColumn) := goodIn_app (goodIn_of _ (by decide +kernel)) ggX7_kick_X1_isColumn
set_option maxRecDepth 20000 in
theorem ggX7_kick_X4_isJammed : GoodIn wsX7_kick wsX4_isJammed := goodIn_r _ [16, 17, 49, 50, 51, 52, 53, 54, 55, 56, 57, 58, 59, 60, 61, 62, 63] (by decide +kernel) (by decide +kernel)
set_option maxRecDepth 20000 in
theorem gX7_kick_X4_isJammed : GoodIn wsX7_kick (wsV RX7 173 RX4 yX4_isJammed wsX4_isJammed) := goodIn_app (goodIn_of _ (by decide +kernel)) ggX7_kick_X4_isJammed
set_option maxRecDepth 20000 in
theorem ggX7_kick_X4_addKick : GoodIn wsX7_kick wsX4_addKick := goodIn_r _ [21, 22, 23, 24, 25, 26, 27, 49, 50, 51, 52, 53, 54, 55, 56, 57, 58, 59, 60, 61, 62, 63] (by decide +kernel) (by decide +kernel)
set_option maxRecDepth 20000 in
theorem gX7_kick_X4_addKick : GoodIn wsX7_kick (wsV RX7 192 RX4 yX4_addKick wsX4_addKick) := goodIn_app (goodIn_of _ (by decide +kernel)) ggX7_kick_X4_addKick
set_option maxRecDepth 20000 in
theorem ggX7_kick_X1_isRhythm : GoodIn wsX7_kick wsX1_isRhythm := goodIn_r _ [31, 32, 33, 64, 65, 66, 67, 68, 69, 70, 71, 72] (by decide +kernel) (by decide +kernel)
set_option maxRecDepth 20000 in
theorem gX7_kick_X1_isRhythm : GoodIn wsX7_kick (wsV RX7 202 RX1 yX1_isRhythm wsX1_isRhythm) := goodIn_app (goodIn_of _ (by decide +kernel)) ggX7_kick_X1_isRhythm
set_option maxRecDepth 20000 in
theorem ggX7_kick_X4_setFree : GoodIn wsX7_kick wsX4_setFree := goodIn_r _ [37, 17, 22, 23, 49, 50, 51, 52, 53, 54, 55, 56, 57, 58, 59, 60, 61, 62, 63] (by decide +kernel) (by decide +kernel)
set_option maxRecDepth 20000 in
theorem gX7_kick_X4_setFree : GoodIn wsX7_kick (wsV RX7 206 RX4 yX4_setFree wsX4_setFree) := goodIn_app (goodIn_of _ (by decide +kernel)) ggX7_kick_X4_setFree
theorem dX7_kick_0 : decode cX7_kick 0 = .ok (.aload_n 0, 1) := by decide +kernel
theorem dX7_kick_1 : decode cX7_kick 1 = .ok (.getfield 64, 3) := by decide +kernel
theorem dX7_kick_4 : decode cX7_kick 4 = .ok (.iload_n 1, 1) := by decide +kernel
theorem dX7_kick_5 : decode cX7_kick 5 = .ok (.invokevirtual 155, 3) := by decide +kernel
theorem dX7_kick_8 : decode cX7_kick 8 = .ok (.ifCond .ne 6, 3) := by decide +kernel
theorem dX7_kick_11 : decode cX7_kick 11 = .ok (.ldc 137, 2) := by decide +kernel
theorem dX7_kick_13 : decode cX7_kick 13 = .ok (.ireturn, 1) := by decide +kernel
theorem dX7_kick_14 : decode cX7_kick 14 = .ok (.iload_n 2, 1) := by decide +kernel
theorem dX7_kick_15 : decode cX7_kick 15 = .ok (.ifCond .eq 11, 3) := by decide +kernel
theorem dX7_kick_18 : decode cX7_kick 18 = .ok (.iload_n 2, 1) := by decide +kernel
theorem dX7_kick_19 : decode cX7_kick 19 = .ok (.iconst 1, 1) := by decide +kernel
theorem dX7_kick_20 : decode cX7_kick 20 = .ok (.if_icmp .eq 6, 3) := by decide +kernel
theorem dX7_kick_23 : decode cX7_kick 23 = .ok (.ldc 75, 2) := by decide +kernel
theorem dX7_kick_25 : decode cX7_kick 25 = .ok (.ireturn, 1) := by decide +kernel
theorem dX7_kick_26 : decode cX7_kick 26 = .ok (.aload_n 0, 1) := by decide +kernel
theorem dX7_kick_27 : decode cX7_kick 27 = .ok (.getfield 68, 3) := by decide +kernel
theorem dX7_kick_30 : decode cX7_kick 30 = .ok (.iload_n 1, 1) := by decide +kernel
theorem dX7_kick_31 : decode cX7_kick 31 = .ok (.invokevirtual 173, 3) := by decide +kernel
theorem dX7_kick_34 : decode cX7_kick 34 = .ok (.ifCond .ne 6, 3) := by decide +kernel
theorem dX7_kick_37 : decode cX7_kick 37 = .ok (.ldc 191, 2) := by decide +kernel
theorem dX7_kick_39 : decode cX7_kick 39 = .ok (.ireturn, 1) := by decide +kernel
theorem dX7_kick_40 : decode cX7_kick 40 = .ok (.aload_n 0, 1) := by decide +kernel
theorem dX7_kick_41 : decode cX7_kick 41 = .ok (.getfield 68, 3) := by decide +kernel
theorem dX7_kick_44 : decode cX7_kick 44 = .ok (.iload_n 1, 1) := by decide +kernel
theorem dX7_kick_45 : decode cX7_kick 45 = .ok (.iload_n 2, 1) := by decide +kernel
theorem dX7_kick_46 : decode cX7_kick 46 = .ok (.invokevirtual 192, 3) := by decide +kernel
theorem dX7_kick_49 : decode cX7_kick 49 = .ok (.aload_n 0, 1) := by decide +kernel
theorem dX7_kick_50 : decode cX7_kick 50 = .ok (.getfield 64, 3) := by decide +kernel
theorem dX7_kick_53 : decode cX7_kick 53 = .ok (.iload_n 1, 1) := by decide +kernel
theorem dX7_kick_54 : decode cX7_kick 54 = .ok (.aload_n 0, 1) := by decide +kernel
theorem dX7_kick_55 : decode cX7_kick 55 = .ok (.getfield 68, 3) := by decide +kernel
theorem dX7_kick_58 : decode cX7_kick 58 = .ok (.getfield 196, 3) := by decide +kernel
theorem dX7_kick_61 : decode cX7_kick 61 = .ok (.iload_n 1, 1) := by decide +kernel
theorem dX7_kick_62 : decode cX7_kick 62 = .ok (.iaload, 1) := by decide +kernel
theorem dX7_kick_63 : decode cX7_kick 63 = .ok (.aload_n 0, 1) := by decide +kernel
theorem dX7_kick_64 : decode cX7_kick 64 = .ok (.getfield 68, 3) := by decide +kernel
theorem dX7_kick_67 : decode cX7_kick 67 = .ok (.getfield 199, 3) := by decide +kernel
theorem dX7_kick_70 : decode cX7_kick 70 = .ok (.iload_n 1, 1) := by decide +kernel
theorem dX7_kick_71 : decode cX7_kick 71 = .ok (.iaload, 1) := by decide +kernel
theorem dX7_kick_72 : decode cX7_kick 72 = .ok (.invokevirtual 202, 3) := by decide +kernel
theorem dX7_kick_75 : decode cX7_kick 75 = .ok (.ifCond .ne 5, 3) := by decide +kernel
theorem dX7_kick_78 : decode cX7_kick 78 = .ok (.iconst 0, 1) := by decide +kernel
theorem dX7_kick_79 : decode cX7_kick 79 = .ok (.ireturn, 1) := by decide +kernel
theorem dX7_kick_80 : decode cX7_kick 80 = .ok (.aload_n 0, 1) := by decide +kernel
theorem dX7_kick_81 : decode cX7_kick 81 = .ok (.getfield 68, 3) := by decide +kernel
theorem dX7_kick_84 : decode cX7_kick 84 = .ok (.iload_n 1, 1) := by decide +kernel
theorem dX7_kick_85 : decode cX7_kick 85 = .ok (.invokevirtual 206, 3) := by decide +kernel
theorem dX7_kick_88 : decode cX7_kick 88 = .ok (.iconst 1, 1) := by decide +kernel
theorem dX7_kick_89 : decode cX7_kick 89 = .ok (.ireturn, 1) := by decide +kernel
theorem dX7_damp_0 : decode cX7_damp 0 = .ok (.iload_n 1, 1) := by decide +kernel
theorem dX7_damp_1 : decode cX7_damp 1 = .ok (.ifCond .lt 9, 3) := by decide +kernel
theorem dX7_damp_4 : decode cX7_damp 4 = .ok (.iload_n 1, 1) := by decide +kernel
theorem dX7_damp_5 : decode cX7_damp 5 = .ok (.bipush 9, 2) := by decide +kernel
theorem dX7_damp_7 : decode cX7_damp 7 = .ok (.if_icmp .le 6, 3) := by decide +kernel
theorem dX7_damp_10 : decode cX7_damp 10 = .ok (.ldc 75, 2) := by decide +kernel
theorem dX7_damp_12 : decode cX7_damp 12 = .ok (.ireturn, 1) := by decide +kernel
theorem dX7_damp_13 : decode cX7_damp 13 = .ok (.aload_n 0, 1) := by decide +kernel
theorem dX7_damp_14 : decode cX7_damp 14 = .ok (.getfield 68, 3) := by decide +kernel
theorem dX7_damp_17 : decode cX7_damp 17 = .ok (.getfield 123, 3) := by decide +kernel
theorem dX7_damp_20 : decode cX7_damp 20 = .ok (.istore_n 2, 1) := by decide +kernel
theorem dX7_damp_21 : decode cX7_damp 21 = .ok (.aload_n 0, 1) := by decide +kernel
theorem dX7_damp_22 : decode cX7_damp 22 = .ok (.getfield 68, 3) := by decide +kernel
theorem dX7_damp_25 : decode cX7_damp 25 = .ok (.iload_n 1, 1) := by decide +kernel
