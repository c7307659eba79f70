theorem dX8_takeColumn_110 : decode cX8_takeColumn 110 = .ok (.putfield 124, 3) := by decide +kernel
theorem dX8_takeColumn_113 : decode cX8_takeColumn 113 = .ok (.return_, 1) := by decide +kernel
theorem dX8_isRow_0 : decode cX8_isRow 0 = .ok (.aload_n 0, 1) := by decide +kernel
theorem dX8_isRow_1 : decode cX8_isRow 1 = .ok (.getfield 105, 3) := by decide +kernel
theorem dX8_isRow_4 : decode cX8_isRow 4 = .ok (.bipush 6, 2) := by decide +kernel
theorem dX8_isRow_6 : decode cX8_isRow 6 = .ok (.if_icmp .gt 7, 3) := by decide +kernel
theorem dX8_isRow_9 : decode cX8_isRow 9 = .ok (.iconst 1, 1) := by decide +kernel
theorem dX8_isRow_10 : decode cX8_isRow 10 = .ok (.goto 4, 3) := by decide +kernel
theorem dX8_isRow_13 : decode cX8_isRow 13 = .ok (.iconst 0, 1) := by decide +kernel
theorem dX8_isRow_14 : decode cX8_isRow 14 = .ok (.istore_n 1, 1) := by decide +kernel
theorem dX8_isRow_15 : decode cX8_isRow 15 = .ok (.iconst 0, 1) := by decide +kernel
theorem dX8_isRow_16 : decode cX8_isRow 16 = .ok (.istore_n 2, 1) := by decide +kernel
theorem dX8_isRow_17 : decode cX8_isRow 17 = .ok (.iload_n 2, 1) := by decide +kernel
theorem dX8_isRow_18 : decode cX8_isRow 18 = .ok (.aload_n 0, 1) := by decide +kernel
theorem dX8_isRow_19 : decode cX8_isRow 19 = .ok (.getfield 105, 3) := by decide +kernel
theorem dX8_isRow_22 : decode cX8_isRow 22 = .ok (.if_icmp .ge 51, 3) := by decide +kernel
theorem dX8_isRow_25 : decode cX8_isRow 25 = .ok (.iload_n 1, 1) := by decide +kernel
theorem dX8_isRow_26 : decode cX8_isRow 26 = .ok (.ifCond .eq 47, 3) := by decide +kernel
theorem dX8_isRow_29 : decode cX8_isRow 29 = .ok (.aload_n 0, 1) := by decide +kernel
theorem dX8_isRow_30 : decode cX8_isRow 30 = .ok (.getfield 47, 3) := by decide +kernel
theorem dX8_isRow_33 : decode cX8_isRow 33 = .ok (.aload_n 0, 1) := by decide +kernel
theorem dX8_isRow_34 : decode cX8_isRow 34 = .ok (.getfield 98, 3) := by decide +kernel
theorem dX8_isRow_37 : decode cX8_isRow 37 = .ok (.iload_n 2, 1) := by decide +kernel
theorem dX8_isRow_38 : decode cX8_isRow 38 = .ok (.iadd, 1) := by decide +kernel
theorem dX8_isRow_39 : decode cX8_isRow 39 = .ok (.iaload, 1) := by decide +kernel
theorem dX8_isRow_40 : decode cX8_isRow 40 = .ok (.bipush 108, 2) := by decide +kernel
theorem dX8_isRow_42 : decode cX8_isRow 42 = .ok (.if_icmp .eq 19, 3) := by decide +kernel
theorem dX8_isRow_45 : decode cX8_isRow 45 = .ok (.aload_n 0, 1) := by decide +kernel
theorem dX8_isRow_46 : decode cX8_isRow 46 = .ok (.getfield 47, 3) := by decide +kernel
theorem dX8_isRow_49 : decode cX8_isRow 49 = .ok (.aload_n 0, 1) := by decide +kernel
theorem dX8_isRow_50 : decode cX8_isRow 50 = .ok (.getfield 98, 3) := by decide +kernel
theorem dX8_isRow_53 : decode cX8_isRow 53 = .ok (.iload_n 2, 1) := by decide +kernel
theorem dX8_isRow_54 : decode cX8_isRow 54 = .ok (.iadd, 1) := by decide +kernel
theorem dX8_isRow_55 : decode cX8_isRow 55 = .ok (.iaload, 1) := by decide +kernel
theorem dX8_isRow_56 : decode cX8_isRow 56 = .ok (.bipush 114, 2) := by decide +kernel
theorem dX8_isRow_58 : decode cX8_isRow 58 = .ok (.if_icmp .ne 7, 3) := by decide +kernel
theorem dX8_isRow_61 : decode cX8_isRow 61 = .ok (.iconst 1, 1) := by decide +kernel
theorem dX8_isRow_62 : decode cX8_isRow 62 = .ok (.goto 4, 3) := by decide +kernel
theorem dX8_isRow_65 : decode cX8_isRow 65 = .ok (.iconst 0, 1) := by decide +kernel
theorem dX8_isRow_66 : decode cX8_isRow 66 = .ok (.istore_n 1, 1) := by decide +kernel
theorem dX8_isRow_67 : decode cX8_isRow 67 = .ok (.iinc 2 1, 3) := by decide +kernel
theorem dX8_isRow_70 : decode cX8_isRow 70 = .ok (.goto (-53), 3) := by decide +kernel
theorem dX8_isRow_73 : decode cX8_isRow 73 = .ok (.iload_n 1, 1) := by decide +kernel
theorem dX8_isRow_74 : decode cX8_isRow 74 = .ok (.ireturn, 1) := by decide +kernel
set_option maxRecDepth 20000 in
theorem ggX8_takeKick_X8_takeNumber : GoodIn wsX8_takeKick wsX8_takeNumber := goodIn_r _ [13, 2, 14, 4, 15, 16, 17, 6, 18, 19, 20, 21, 12, 22, 23, 24, 25, 26, 27, 28, 29, 30, 47, 48, 49, 50, 51, 52, 53, 54, 55, 56, 57, 58, 59, 60, 61, 62, 63, 64, 65, 66, 67, 68, 69, 70, 71, 72, 73, 74, 75, 76, 77, 78, 79, 80, 81] (by decide +kernel) (by decide +kernel)
set_option maxRecDepth 20000 in
theorem gX8_takeKick_X8_takeNumber : GoodIn wsX8_takeKick (wsV RX8 120 RX8 yX8_takeNumber wsX8_takeNumber) := goodIn_app (goodIn_of _ (by decide +kernel)) ggX8_takeKick_X8_takeNumber
set_option maxRecDepth 20000 in
theorem ggX8_takeKick_X8_has : GoodIn wsX8_takeKick wsX8_has := goodIn_r _ [33] (by decide +kernel) (by decide +kernel)
set_option maxRecDepth 20000 in
theorem gX8_takeKick_X8_has : GoodIn wsX8_takeKick (va_wsS RX8 130 yX8_has wsX8_has) := goodIn_app (goodIn_of _ (by decide +kernel)) ggX8_takeKick_X8_has
set_option maxRecDepth 20000 in
theorem ggX8_takeKick_X8_want : GoodIn wsX8_takeKick wsX8_want := goodIn_r _ [29, 2, 30, 47, 48, 49, 50, 51, 52, 53, 54, 55, 56, 57, 58, 59, 60, 61, 62, 63, 64, 65, 66, 67, 68, 69, 70, 71, 72, 73, 74, 75, 76, 77, 78, 79, 80, 81] (by decide +kernel) (by decide +kernel)
set_option maxRecDepth 20000 in
theorem gX8_takeKick_X8_want : GoodIn wsX8_takeKick (wsV RX8 112 RX8 yX8_want wsX8_want) := goodIn_app (goodIn_of _ (by decide +kernel)) ggX8_takeKick_X8_want
set_option maxRecDepth 20000 in
theorem ggX8_takeKick_X8_takeWord : GoodIn wsX8_takeKick wsX8_takeWord := goodIn_r _ [37, 14, 4, 17, 6, 38, 39, 5, 19, 20, 21, 12, 22, 23, 24, 25, 47, 48, 49, 50, 51, 52, 53, 54, 55, 56, 57, 58, 59, 60, 61, 62, 63, 64, 65, 66, 67, 68, 69, 70, 71, 72, 73, 74, 75, 76, 77, 78, 79, 80, 81] (by decide +kernel) (by decide +kernel)
set_option maxRecDepth 20000 in
theorem gX8_takeKick_X8_takeWord : GoodIn wsX8_takeKick (wsV RX8 134 RX8 yX8_takeWord wsX8_takeWord) := goodIn_app (goodIn_of _ (by decide +kernel)) ggX8_takeKick_X8_takeWord
set_option maxRecDepth 20000 in
theorem ggX8_takeKick_X8_isRow : GoodIn wsX8_takeKick wsX8_isRow := goodIn_r _ [43, 5, 6, 4, 47, 48, 49, 50, 51, 52, 53, 54, 55, 56, 57, 58, 59, 60, 61, 62, 63, 64, 65, 66, 67, 68, 69, 70, 71, 72, 73, 74, 75, 76, 77, 78, 79, 80, 81] (by decide +kernel) (by decide +kernel)
set_option maxRecDepth 20000 in
theorem gX8_takeKick_X8_isRow : GoodIn wsX8_takeKick (wsV RX8 137 RX8 yX8_isRow wsX8_isRow) := goodIn_app (goodIn_of _ (by decide +kernel)) ggX8_takeKick_X8_isRow
set_option maxRecDepth 20000 in
theorem ggX8_takeKick_X8_one : GoodIn wsX8_takeKick wsX8_one := goodIn_r _ [46] (by decide +kernel) (by decide +kernel)
set_option maxRecDepth 20000 in
theorem gX8_takeKick_X8_one : GoodIn wsX8_takeKick (va_wsS RX8 141 yX8_one wsX8_one) := goodIn_app (goodIn_of _ (by decide +kernel)) ggX8_takeKick_X8_one
theorem dX8_takeKick_0 : decode cX8_takeKick 0 = .ok (.aload_n 0, 1) := by decide +kernel
theorem dX8_takeKick_1 : decode cX8_takeKick 1 = .ok (.iconst 0, 1) := by decide +kernel
theorem dX8_takeKick_2 : decode cX8_takeKick 2 = .ok (.aload_n 0, 1) := by decide +kernel
theorem dX8_takeKick_3 : decode cX8_takeKick 3 = .ok (.getfield 124, 3) := by decide +kernel
theorem dX8_takeKick_6 : decode cX8_takeKick 6 = .ok (.iconst 1, 1) := by decide +kernel
theorem dX8_takeKick_7 : decode cX8_takeKick 7 = .ok (.isub, 1) := by decide +kernel
theorem dX8_takeKick_8 : decode cX8_takeKick 8 = .ok (.invokevirtual 120, 3) := by decide +kernel
theorem dX8_takeKick_11 : decode cX8_takeKick 11 = .ok (.istore_n 1, 1) := by decide +kernel
theorem dX8_takeKick_12 : decode cX8_takeKick 12 = .ok (.aload_n 0, 1) := by decide +kernel
theorem dX8_takeKick_13 : decode cX8_takeKick 13 = .ok (.getfield 91, 3) := by decide +kernel
theorem dX8_takeKick_16 : decode cX8_takeKick 16 = .ok (.ifCond .gt 31, 3) := by decide +kernel
theorem dX8_takeKick_19 : decode cX8_takeKick 19 = .ok (.aload_n 0, 1) := by decide +kernel
theorem dX8_takeKick_20 : decode cX8_takeKick 20 = .ok (.aload_n 0, 1) := by decide +kernel
theorem dX8_takeKick_21 : decode cX8_takeKick 21 = .ok (.getfield 127, 3) := by decide +kernel
theorem dX8_takeKick_24 : decode cX8_takeKick 24 = .ok (.iload_n 1, 1) := by decide +kernel
theorem dX8_takeKick_25 : decode cX8_takeKick 25 = .ok (.invokestatic 130, 3) := by decide +kernel
theorem dX8_takeKick_28 : decode cX8_takeKick 28 = .ok (.ifCond .ne 7, 3) := by decide +kernel
theorem dX8_takeKick_31 : decode cX8_takeKick 31 = .ok (.iconst 1, 1) := by decide +kernel
theorem dX8_takeKick_32 : decode cX8_takeKick 32 = .ok (.goto 4, 3) := by decide +kernel
theorem dX8_takeKick_35 : decode cX8_takeKick 35 = .ok (.iconst 0, 1) := by decide +kernel
theorem dX8_takeKick_36 : decode cX8_takeKick 36 = .ok (.iconst 4, 1) := by decide +kernel
theorem dX8_takeKick_37 : decode cX8_takeKick 37 = .ok (.aload_n 0, 1) := by decide +kernel
theorem dX8_takeKick_38 : decode cX8_takeKick 38 = .ok (.getfield 98, 3) := by decide +kernel
theorem dX8_takeKick_41 : decode cX8_takeKick 41 = .ok (.invokevirtual 112, 3) := by decide +kernel
theorem dX8_takeKick_44 : decode cX8_takeKick 44 = .ok (.ifCond .ne 4, 3) := by decide +kernel
theorem dX8_takeKick_47 : decode cX8_takeKick 47 = .ok (.return_, 1) := by decide +kernel
theorem dX8_takeKick_48 : decode cX8_takeKick 48 = .ok (.aload_n 0, 1) := by decide +kernel
theorem dX8_takeKick_49 : decode cX8_takeKick 49 = .ok (.dup, 1) := by decide +kernel
theorem dX8_takeKick_50 : decode cX8_takeKick 50 = .ok (.getfield 127, 3) := by decide +kernel
theorem dX8_takeKick_53 : decode cX8_takeKick 53 = .ok (.iconst 1, 1) := by decide +kernel
theorem dX8_takeKick_54 : decode cX8_takeKick 54 = .ok (.iload_n 1, 1) := by decide +kernel
theorem dX8_takeKick_55 : decode cX8_takeKick 55 = .ok (.ishl, 1) := by decide +kernel
theorem dX8_takeKick_56 : decode cX8_takeKick 56 = .ok (.ior, 1) := by decide +kernel
theorem dX8_takeKick_57 : decode cX8_takeKick 57 = .ok (.putfield 127, 3) := by decide +kernel
theorem dX8_takeKick_60 : decode cX8_takeKick 60 = .ok (.aload_n 0, 1) := by decide +kernel
theorem dX8_takeKick_61 : decode cX8_takeKick 61 = .ok (.invokevirtual 134, 3) := by decide +kernel
theorem dX8_takeKick_64 : decode cX8_takeKick 64 = .ok (.aload_n 0, 1) := by decide +kernel
theorem dX8_takeKick_65 : decode cX8_takeKick 65 = .ok (.aload_n 0, 1) := by decide +kernel
theorem dX8_takeKick_66 : decode cX8_takeKick 66 = .ok (.getfield 105, 3) := by decide +kernel
theorem dX8_takeKick_69 : decode cX8_takeKick 69 = .ok (.ifCond .le 7, 3) := by decide +kernel
theorem dX8_takeKick_72 : decode cX8_takeKick 72 = .ok (.iconst 1, 1) := by decide +kernel
theorem dX8_takeKick_73 : decode cX8_takeKick 73 = .ok (.goto 4, 3) := by decide +kernel
theorem dX8_takeKick_76 : decode cX8_takeKick 76 = .ok (.iconst 0, 1) := by decide +kernel
theorem dX8_takeKick_77 : decode cX8_takeKick 77 = .ok (.iconst 1, 1) := by decide +kernel
theorem dX8_takeKick_78 : decode cX8_takeKick 78 = .ok (.aload_n 0, 1) := by decide +kernel
theorem dX8_takeKick_79 : decode cX8_takeKick 79 = .ok (.getfield 98, 3) := by decide +kernel
theorem dX8_takeKick_82 : decode cX8_takeKick 82 = .ok (.invokevirtual 112, 3) := by decide +kernel
theorem dX8_takeKick_85 : decode cX8_takeKick 85 = .ok (.ifCond .eq 87, 3) := by decide +kernel
theorem dX8_takeKick_88 : decode cX8_takeKick 88 = .ok (.aload_n 0, 1) := by decide +kernel
theorem dX8_takeKick_89 : decode cX8_takeKick 89 = .ok (.aload_n 0, 1) := by decide +kernel
theorem dX8_takeKick_90 : decode cX8_takeKick 90 = .ok (.invokevirtual 137, 3) := by decide +kernel
theorem dX8_takeKick_93 : decode cX8_takeKick 93 = .ok (.iconst 4, 1) := by decide +kernel
theorem dX8_takeKick_94 : decode cX8_takeKick 94 = .ok (.aload_n 0, 1) := by decide +kernel
theorem dX8_takeKick_95 : decode cX8_takeKick 95 = .ok (.getfield 98, 3) := by decide +kernel
theorem dX8_takeKick_98 : decode cX8_takeKick 98 = .ok (.invokevirtual 112, 3) := by decide +kernel
theorem dX8_takeKick_101 : decode cX8_takeKick 101 = .ok (.ifCond .eq 71, 3) := by decide +kernel
theorem dX8_takeKick_104 : decode cX8_takeKick 104 = .ok (.iconst 0, 1) := by decide +kernel
theorem dX8_takeKick_105 : decode cX8_takeKick 105 = .ok (.istore_n 2, 1) := by decide +kernel
theorem dX8_takeKick_106 : decode cX8_takeKick 106 = .ok (.iconst 0, 1) := by decide +kernel
theorem dX8_takeKick_107 : decode cX8_takeKick 107 = .ok (.istore_n 3, 1) := by decide +kernel
theorem dX8_takeKick_108 : decode cX8_takeKick 108 = .ok (.iload_n 3, 1) := by decide +kernel
theorem dX8_takeKick_109 : decode cX8_takeKick 109 = .ok (.aload_n 0, 1) := by decide +kernel
theorem dX8_takeKick_110 : decode cX8_takeKick 110 = .ok (.getfield 105, 3) := by decide +kernel
theorem dX8_takeKick_113 : decode cX8_takeKick 113 = .ok (.if_icmp .ge 38, 3) := by decide +kernel
theorem dX8_takeKick_116 : decode cX8_takeKick 116 = .ok (.iload_n 2, 1) := by decide +kernel
theorem dX8_takeKick_117 : decode cX8_takeKick 117 = .ok (.aload_n 0, 1) := by decide +kernel
theorem dX8_takeKick_118 : decode cX8_takeKick 118 = .ok (.getfield 47, 3) := by decide +kernel
theorem dX8_takeKick_121 : decode cX8_takeKick 121 = .ok (.aload_n 0, 1) := by decide +kernel
theorem dX8_takeKick_122 : decode cX8_takeKick 122 = .ok (.getfield 98, 3) := by decide +kernel
theorem dX8_takeKick_125 : decode cX8_takeKick 125 = .ok (.iload_n 3, 1) := by decide +kernel
theorem dX8_takeKick_126 : decode cX8_takeKick 126 = .ok (.iadd, 1) := by decide +kernel
theorem dX8_takeKick_127 : decode cX8_takeKick 127 = .ok (.iaload, 1) := by decide +kernel
theorem dX8_takeKick_128 : decode cX8_takeKick 128 = .ok (.bipush 114, 2) := by decide +kernel
theorem dX8_takeKick_130 : decode cX8_takeKick 130 = .ok (.if_icmp .ne 7, 3) := by decide +kernel
theorem dX8_takeKick_133 : decode cX8_takeKick 133 = .ok (.iconst 1, 1) := by decide +kernel
theorem dX8_takeKick_134 : decode cX8_takeKick 134 = .ok (.goto 4, 3) := by decide +kernel
theorem dX8_takeKick_137 : decode cX8_takeKick 137 = .ok (.iconst 0, 1) := by decide +kernel
theorem dX8_takeKick_138 : decode cX8_takeKick 138 = .ok (.invokestatic 141, 3) := by decide +kernel
theorem dX8_takeKick_141 : decode cX8_takeKick 141 = .ok (.iload_n 3, 1) := by decide +kernel
theorem dX8_takeKick_142 : decode cX8_takeKick 142 = .ok (.ishl, 1) := by decide +kernel
theorem dX8_takeKick_143 : decode cX8_takeKick 143 = .ok (.ior, 1) := by decide +kernel
theorem dX8_takeKick_144 : decode cX8_takeKick 144 = .ok (.istore_n 2, 1) := by decide +kernel
theorem dX8_takeKick_145 : decode cX8_takeKick 145 = .ok (.iinc 3 1, 3) := by decide +kernel
theorem dX8_takeKick_148 : decode cX8_takeKick 148 = .ok (.goto (-40), 3) := by decide +kernel
theorem dX8_takeKick_151 : decode cX8_takeKick 151 = .ok (.aload_n 0, 1) := by decide +kernel
theorem dX8_takeKick_152 : decode cX8_takeKick 152 = .ok (.getfield 38, 3) := by decide +kernel
theorem dX8_takeKick_155 : decode cX8_takeKick 155 = .ok (.iconst 5, 1) := by decide +kernel
theorem dX8_takeKick_156 : decode cX8_takeKick 156 = .ok (.iload_n 1, 1) := by decide +kernel
theorem dX8_takeKick_157 : decode cX8_takeKick 157 = .ok (.iadd, 1) := by decide +kernel
theorem dX8_takeKick_158 : decode cX8_takeKick 158 = .ok (.iload_n 2, 1) := by decide +kernel
theorem dX8_takeKick_159 : decode cX8_takeKick 159 = .ok (.iastore, 1) := by decide +kernel
theorem dX8_takeKick_160 : decode cX8_takeKick 160 = .ok (.aload_n 0, 1) := by decide +kernel
theorem dX8_takeKick_161 : decode cX8_takeKick 161 = .ok (.getfield 41, 3) := by decide +kernel
theorem dX8_takeKick_164 : decode cX8_takeKick 164 = .ok (.iconst 5, 1) := by decide +kernel
theorem dX8_takeKick_165 : decode cX8_takeKick 165 = .ok (.iload_n 1, 1) := by decide +kernel
theorem dX8_takeKick_166 : decode cX8_takeKick 166 = .ok (.iadd, 1) := by decide +kernel
theorem dX8_takeKick_167 : decode cX8_takeKick 167 = .ok (.aload_n 0, 1) := by decide +kernel
theorem dX8_takeKick_168 : decode cX8_takeKick 168 = .ok (.getfield 105, 3) := by decide +kernel
theorem dX8_takeKick_171 : decode cX8_takeKick 171 = .ok (.iastore, 1) := by decide +kernel
theorem dX8_takeKick_172 : decode cX8_takeKick 172 = .ok (.return_, 1) := by decide +kernel
set_option maxRecDepth 20000 in
theorem ggX8_takeClause_X8_takeWord : GoodIn wsX8_takeClause wsX8_takeWord := goodIn_r _ [10, 11, 1, 12, 13, 14, 15, 16, 17, 18, 19, 9, 20, 21, 22, 23, 73, 74, 75, 76, 77, 78, 79, 80, 81, 82, 83, 84, 85, 86, 87, 88, 89, 90, 91, 92, 93, 94, 95, 96, 97, 98, 99, 100, 101, 102, 103, 104, 105, 106, 107] (by decide +kernel) (by decide +kernel)
set_option maxRecDepth 20000 in
theorem gX8_takeClause_X8_takeWord : GoodIn wsX8_takeClause (wsV RX8 134 RX8 yX8_takeWord wsX8_takeWord) := goodIn_app (goodIn_of _ (by decide +kernel)) ggX8_takeClause_X8_takeWord
set_option maxRecDepth 20000 in
theorem ggX8_takeClause_X8_isWord : GoodIn wsX8_takeClause wsX8_isWord := goodIn_r _ [27, 16, 13, 1, 73, 74, 75, 76, 77, 78, 79, 80, 81, 82, 83, 84, 85, 86, 87, 88, 89, 90, 91, 92, 93, 94, 95, 96, 97, 98, 99, 100, 101, 102, 103, 104, 105, 106, 107] (by decide +kernel) (by decide +kernel)
set_option maxRecDepth 20000 in
theorem gX8_takeClause_X8_isWord : GoodIn wsX8_takeClause (wsV RX8 145 RX8 yX8_isWord wsX8_isWord) := goodIn_app (goodIn_of _ (by decide +kernel)) ggX8_takeClause_X8_isWord
set_option maxRecDepth 20000 in
theorem ggX8_takeClause_X8_want : GoodIn wsX8_takeClause wsX8_want := goodIn_r _ [31, 32, 33, 73, 74, 75, 76, 77, 78, 79, 80, 81, 82, 83, 84, 85, 86, 87, 88, 89, 90, 91, 92, 93, 94, 95, 96, 97, 98, 99, 100, 101, 102, 103, 104, 105, 106, 107] (by decide +kernel) (by decide +kernel)
set_option maxRecDepth 20000 in
theorem gX8_takeClause_X8_want : GoodIn wsX8_takeClause (wsV RX8 112 RX8 yX8_want wsX8_want) := goodIn_app (goodIn_of _ (by decide +kernel)) ggX8_takeClause_X8_want
set_option maxRecDepth 20000 in
theorem ggX8_takeClause_X8_takeCoin : GoodIn wsX8_takeClause wsX8_takeCoin := goodIn_r _ [37, 2, 38, 39, 40, 41, 42, 43, 9, 44, 32, 11, 1, 45, 46, 12, 13, 47, 17, 18, 19, 20, 21, 22, 23, 28, 29, 30, 31, 33, 73, 74, 75, 76, 77, 78, 79, 80, 81, 82, 83, 84, 85, 86, 87, 88, 89, 90, 91, 92, 93, 94, 95, 96, 97, 98, 99, 100, 101, 102, 103, 104, 105, 106, 107] (by decide +kernel) (by decide +kernel)
set_option maxRecDepth 20000 in
theorem gX8_takeClause_X8_takeCoin : GoodIn wsX8_takeClause (wsV RX8 149 RX8 yX8_takeCoin wsX8_takeCoin) := goodIn_app (goodIn_of _ (by decide +kernel)) ggX8_takeClause_X8_takeCoin
set_option maxRecDepth 20000 in
theorem ggX8_takeClause_X8_takeColumn : GoodIn wsX8_takeClause wsX8_takeColumn := goodIn_r _ [51, 3, 52, 53, 54, 1, 55, 56, 57, 41, 42, 43, 9, 44, 32, 11, 45, 46, 12, 13, 47, 17, 18, 19, 20, 21, 22, 23, 28, 29, 30, 31, 33, 73, 74, 75, 76, 77, 78, 79, 80, 81, 82, 83, 84, 85, 86, 87, 88, 89, 90, 91, 92, 93, 94, 95, 96, 97, 98, 99, 100, 101, 102, 103, 104, 105, 106, 107] (by decide +kernel) (by decide +kernel)
set_option maxRecDepth 20000 in
theorem gX8_takeClause_X8_takeColumn : GoodIn wsX8_takeClause (wsV RX8 152 RX8 yX8_takeColumn wsX8_takeColumn) := goodIn_app (goodIn_of _ (by decide +kernel)) ggX8_takeClause_X8_takeColumn
set_option maxRecDepth 20000 in
theorem ggX8_takeClause_X8_takeNumber : GoodIn wsX8_takeClause wsX8_takeNumber := goodIn_r _ [44, 32, 11, 1, 45, 46, 12, 13, 47, 17, 18, 19, 9, 20, 21, 22, 23, 28, 29, 30, 31, 33, 73, 74, 75, 76, 77, 78, 79, 80, 81, 82, 83, 84, 85, 86, 87, 88, 89, 90, 91, 92, 93, 94, 95, 96, 97, 98, 99, 100, 101, 102, 103, 104, 105, 106, 107] (by decide +kernel) (by decide +kernel)
set_option maxRecDepth 20000 in
theorem gX8_takeClause_X8_takeNumber : GoodIn wsX8_takeClause (wsV RX8 120 RX8 yX8_takeNumber wsX8_takeNumber) := goodIn_app (goodIn_of _ (by decide +kernel)) ggX8_takeClause_X8_takeNumber
set_option maxRecDepth 20000 in
theorem ggX8_takeClause_X8_takeKick : GoodIn wsX8_takeClause wsX8_takeKick := goodIn_r _ [61, 3, 32, 62, 1, 16, 13, 56, 57, 41, 42, 43, 9, 44, 11, 45, 46, 12, 47, 17, 18, 19, 20, 21, 22, 23, 28, 29, 30, 31, 33, 63, 64, 65, 6, 7, 8, 10, 14, 15, 66, 67, 68, 69, 70, 71, 72, 73, 74, 75, 76, 77, 78, 79, 80, 81, 82, 83, 84, 85, 86, 87, 88, 89, 90, 91, 92, 93, 94, 95, 96, 97, 98, 99, 100, 101, 102, 103, 104, 105, 106, 107] (by decide +kernel) (by decide +kernel)
set_option maxRecDepth 20000 in
theorem gX8_takeClause_X8_takeKick : GoodIn wsX8_takeClause (wsV RX8 158 RX8 yX8_takeKick wsX8_takeKick) := goodIn_app (goodIn_of _ (by decide +kernel)) ggX8_takeClause_X8_takeKick
theorem dX8_takeClause_0 : decode cX8_takeClause 0 = .ok (.aload_n 0, 1) := by decide +kernel
theorem dX8_takeClause_1 : decode cX8_takeClause 1 = .ok (.invokevirtual 134, 3) := by decide +kernel
theorem dX8_takeClause_4 : decode cX8_takeClause 4 = .ok (.aload_n 0, 1) := by decide +kernel
theorem dX8_takeClause_5 : decode cX8_takeClause 5 = .ok (.getfield 98, 3) := by decide +kernel
theorem dX8_takeClause_8 : decode cX8_takeClause 8 = .ok (.istore_n 1, 1) := by decide +kernel
theorem dX8_takeClause_9 : decode cX8_takeClause 9 = .ok (.aload_n 0, 1) := by decide +kernel
theorem dX8_takeClause_10 : decode cX8_takeClause 10 = .ok (.iconst 4, 1) := by decide +kernel
theorem dX8_takeClause_11 : decode cX8_takeClause 11 = .ok (.bipush 99, 2) := by decide +kernel
theorem dX8_takeClause_13 : decode cX8_takeClause 13 = .ok (.bipush 111, 2) := by decide +kernel
theorem dX8_takeClause_15 : decode cX8_takeClause 15 = .ok (.bipush 105, 2) := by decide +kernel
theorem dX8_takeClause_17 : decode cX8_takeClause 17 = .ok (.bipush 110, 2) := by decide +kernel
theorem dX8_takeClause_19 : decode cX8_takeClause 19 = .ok (.iconst 0, 1) := by decide +kernel
theorem dX8_takeClause_20 : decode cX8_takeClause 20 = .ok (.iconst 0, 1) := by decide +kernel
theorem dX8_takeClause_21 : decode cX8_takeClause 21 = .ok (.invokevirtual 145, 3) := by decide +kernel
theorem dX8_takeClause_24 : decode cX8_takeClause 24 = .ok (.ifCond .eq 32, 3) := by decide +kernel
theorem dX8_takeClause_27 : decode cX8_takeClause 27 = .ok (.aload_n 0, 1) := by decide +kernel
theorem dX8_takeClause_28 : decode cX8_takeClause 28 = .ok (.aload_n 0, 1) := by decide +kernel
theorem dX8_takeClause_29 : decode cX8_takeClause 29 = .ok (.getfield 117, 3) := by decide +kernel
theorem dX8_takeClause_32 : decode cX8_takeClause 32 = .ok (.iconst 5, 1) := by decide +kernel
theorem dX8_takeClause_33 : decode cX8_takeClause 33 = .ok (.if_icmp .ge 7, 3) := by decide +kernel
theorem dX8_takeClause_36 : decode cX8_takeClause 36 = .ok (.iconst 1, 1) := by decide +kernel
theorem dX8_takeClause_37 : decode cX8_takeClause 37 = .ok (.goto 4, 3) := by decide +kernel
theorem dX8_takeClause_40 : decode cX8_takeClause 40 = .ok (.iconst 0, 1) := by decide +kernel
theorem dX8_takeClause_41 : decode cX8_takeClause 41 = .ok (.iconst 3, 1) := by decide +kernel
theorem dX8_takeClause_42 : decode cX8_takeClause 42 = .ok (.iload_n 1, 1) := by decide +kernel
theorem dX8_takeClause_43 : decode cX8_takeClause 43 = .ok (.invokevirtual 112, 3) := by decide +kernel
theorem dX8_takeClause_46 : decode cX8_takeClause 46 = .ok (.ifCond .eq 159, 3) := by decide +kernel
theorem dX8_takeClause_49 : decode cX8_takeClause 49 = .ok (.aload_n 0, 1) := by decide +kernel
theorem dX8_takeClause_50 : decode cX8_takeClause 50 = .ok (.invokevirtual 149, 3) := by decide +kernel
theorem dX8_takeClause_53 : decode cX8_takeClause 53 = .ok (.goto 152, 3) := by decide +kernel
theorem dX8_takeClause_56 : decode cX8_takeClause 56 = .ok (.aload_n 0, 1) := by decide +kernel
theorem dX8_takeClause_57 : decode cX8_takeClause 57 = .ok (.bipush 6, 2) := by decide +kernel
theorem dX8_takeClause_59 : decode cX8_takeClause 59 = .ok (.bipush 99, 2) := by decide +kernel
theorem dX8_takeClause_61 : decode cX8_takeClause 61 = .ok (.bipush 111, 2) := by decide +kernel
theorem dX8_takeClause_63 : decode cX8_takeClause 63 = .ok (.bipush 108, 2) := by decide +kernel
theorem dX8_takeClause_65 : decode cX8_takeClause 65 = .ok (.bipush 117, 2) := by decide +kernel
theorem dX8_takeClause_67 : decode cX8_takeClause 67 = .ok (.bipush 109, 2) := by decide +kernel
theorem dX8_takeClause_69 : decode cX8_takeClause 69 = .ok (.bipush 110, 2) := by decide +kernel
theorem dX8_takeClause_71 : decode cX8_takeClause 71 = .ok (.invokevirtual 145, 3) := by decide +kernel
theorem dX8_takeClause_74 : decode cX8_takeClause 74 = .ok (.ifCond .eq 32, 3) := by decide +kernel
theorem dX8_takeClause_77 : decode cX8_takeClause 77 = .ok (.aload_n 0, 1) := by decide +kernel
theorem dX8_takeClause_78 : decode cX8_takeClause 78 = .ok (.aload_n 0, 1) := by decide +kernel
theorem dX8_takeClause_79 : decode cX8_takeClause 79 = .ok (.getfield 124, 3) := by decide +kernel
theorem dX8_takeClause_82 : decode cX8_takeClause 82 = .ok (.iconst 5, 1) := by decide +kernel
theorem dX8_takeClause_83 : decode cX8_takeClause 83 = .ok (.if_icmp .ge 7, 3) := by decide +kernel
theorem dX8_takeClause_86 : decode cX8_takeClause 86 = .ok (.iconst 1, 1) := by decide +kernel
theorem dX8_takeClause_87 : decode cX8_takeClause 87 = .ok (.goto 4, 3) := by decide +kernel
theorem dX8_takeClause_90 : decode cX8_takeClause 90 = .ok (.iconst 0, 1) := by decide +kernel
theorem dX8_takeClause_91 : decode cX8_takeClause 91 = .ok (.iconst 3, 1) := by decide +kernel
theorem dX8_takeClause_92 : decode cX8_takeClause 92 = .ok (.iload_n 1, 1) := by decide +kernel
theorem dX8_takeClause_93 : decode cX8_takeClause 93 = .ok (.invokevirtual 112, 3) := by decide +kernel
theorem dX8_takeClause_96 : decode cX8_takeClause 96 = .ok (.ifCond .eq 109, 3) := by decide +kernel
theorem dX8_takeClause_99 : decode cX8_takeClause 99 = .ok (.aload_n 0, 1) := by decide +kernel
theorem dX8_takeClause_100 : decode cX8_takeClause 100 = .ok (.invokevirtual 152, 3) := by decide +kernel
theorem dX8_takeClause_103 : decode cX8_takeClause 103 = .ok (.goto 102, 3) := by decide +kernel
theorem dX8_takeClause_106 : decode cX8_takeClause 106 = .ok (.aload_n 0, 1) := by decide +kernel
theorem dX8_takeClause_107 : decode cX8_takeClause 107 = .ok (.iconst 4, 1) := by decide +kernel
theorem dX8_takeClause_108 : decode cX8_takeClause 108 = .ok (.bipush 115, 2) := by decide +kernel
theorem dX8_takeClause_110 : decode cX8_takeClause 110 = .ok (.bipush 108, 2) := by decide +kernel
theorem dX8_takeClause_112 : decode cX8_takeClause 112 = .ok (.bipush 117, 2) := by decide +kernel
theorem dX8_takeClause_114 : decode cX8_takeClause 114 = .ok (.bipush 103, 2) := by decide +kernel
theorem dX8_takeClause_116 : decode cX8_takeClause 116 = .ok (.iconst 0, 1) := by decide +kernel
theorem dX8_takeClause_117 : decode cX8_takeClause 117 = .ok (.iconst 0, 1) := by decide +kernel
theorem dX8_takeClause_118 : decode cX8_takeClause 118 = .ok (.invokevirtual 145, 3) := by decide +kernel
theorem dX8_takeClause_121 : decode cX8_takeClause 121 = .ok (.ifCond .eq 56, 3) := by decide +kernel
theorem dX8_takeClause_124 : decode cX8_takeClause 124 = .ok (.aload_n 0, 1) := by decide +kernel
theorem dX8_takeClause_125 : decode cX8_takeClause 125 = .ok (.aload_n 0, 1) := by decide +kernel
theorem dX8_takeClause_126 : decode cX8_takeClause 126 = .ok (.getfield 155, 3) := by decide +kernel
theorem dX8_takeClause_129 : decode cX8_takeClause 129 = .ok (.iconst 5, 1) := by decide +kernel
theorem dX8_takeClause_130 : decode cX8_takeClause 130 = .ok (.if_icmp .ge 7, 3) := by decide +kernel
theorem dX8_takeClause_133 : decode cX8_takeClause 133 = .ok (.iconst 1, 1) := by decide +kernel
theorem dX8_takeClause_134 : decode cX8_takeClause 134 = .ok (.goto 4, 3) := by decide +kernel
theorem dX8_takeClause_137 : decode cX8_takeClause 137 = .ok (.iconst 0, 1) := by decide +kernel
theorem dX8_takeClause_138 : decode cX8_takeClause 138 = .ok (.iconst 3, 1) := by decide +kernel
theorem dX8_takeClause_139 : decode cX8_takeClause 139 = .ok (.iload_n 1, 1) := by decide +kernel
theorem dX8_takeClause_140 : decode cX8_takeClause 140 = .ok (.invokevirtual 112, 3) := by decide +kernel
theorem dX8_takeClause_143 : decode cX8_takeClause 143 = .ok (.ifCond .eq 62, 3) := by decide +kernel
theorem dX8_takeClause_146 : decode cX8_takeClause 146 = .ok (.aload_n 0, 1) := by decide +kernel
theorem dX8_takeClause_147 : decode cX8_takeClause 147 = .ok (.getfield 44, 3) := by decide +kernel
theorem dX8_takeClause_150 : decode cX8_takeClause 150 = .ok (.iconst 5, 1) := by decide +kernel
theorem dX8_takeClause_151 : decode cX8_takeClause 151 = .ok (.aload_n 0, 1) := by decide +kernel
theorem dX8_takeClause_152 : decode cX8_takeClause 152 = .ok (.getfield 155, 3) := by decide +kernel
theorem dX8_takeClause_155 : decode cX8_takeClause 155 = .ok (.iadd, 1) := by decide +kernel
theorem dX8_takeClause_156 : decode cX8_takeClause 156 = .ok (.aload_n 0, 1) := by decide +kernel
theorem dX8_takeClause_157 : decode cX8_takeClause 157 = .ok (.iconst 1, 1) := by decide +kernel
theorem dX8_takeClause_158 : decode cX8_takeClause 158 = .ok (.bipush 99, 2) := by decide +kernel
theorem dX8_takeClause_160 : decode cX8_takeClause 160 = .ok (.invokevirtual 120, 3) := by decide +kernel
theorem dX8_takeClause_163 : decode cX8_takeClause 163 = .ok (.iastore, 1) := by decide +kernel
theorem dX8_takeClause_164 : decode cX8_takeClause 164 = .ok (.aload_n 0, 1) := by decide +kernel
theorem dX8_takeClause_165 : decode cX8_takeClause 165 = .ok (.dup, 1) := by decide +kernel
