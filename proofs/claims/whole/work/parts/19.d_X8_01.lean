theorem dX8_isWord_12 : decode cX8_isWord 12 = .ok (.iconst 0, 1) := by decide +kernel
theorem dX8_isWord_13 : decode cX8_isWord 13 = .ok (.istore 8, 2) := by decide +kernel
theorem dX8_isWord_15 : decode cX8_isWord 15 = .ok (.iconst 0, 1) := by decide +kernel
theorem dX8_isWord_16 : decode cX8_isWord 16 = .ok (.istore 9, 2) := by decide +kernel
theorem dX8_isWord_18 : decode cX8_isWord 18 = .ok (.iload 9, 2) := by decide +kernel
theorem dX8_isWord_20 : decode cX8_isWord 20 = .ok (.iload_n 1, 1) := by decide +kernel
theorem dX8_isWord_21 : decode cX8_isWord 21 = .ok (.if_icmp .ge 90, 3) := by decide +kernel
theorem dX8_isWord_24 : decode cX8_isWord 24 = .ok (.iload 8, 2) := by decide +kernel
theorem dX8_isWord_26 : decode cX8_isWord 26 = .ok (.ifCond .eq 85, 3) := by decide +kernel
theorem dX8_isWord_29 : decode cX8_isWord 29 = .ok (.aload_n 0, 1) := by decide +kernel
theorem dX8_isWord_30 : decode cX8_isWord 30 = .ok (.getfield 47, 3) := by decide +kernel
theorem dX8_isWord_33 : decode cX8_isWord 33 = .ok (.aload_n 0, 1) := by decide +kernel
theorem dX8_isWord_34 : decode cX8_isWord 34 = .ok (.getfield 98, 3) := by decide +kernel
theorem dX8_isWord_37 : decode cX8_isWord 37 = .ok (.iload 9, 2) := by decide +kernel
theorem dX8_isWord_39 : decode cX8_isWord 39 = .ok (.iadd, 1) := by decide +kernel
theorem dX8_isWord_40 : decode cX8_isWord 40 = .ok (.iaload, 1) := by decide +kernel
theorem dX8_isWord_41 : decode cX8_isWord 41 = .ok (.iload 9, 2) := by decide +kernel
theorem dX8_isWord_43 : decode cX8_isWord 43 = .ok (.ifCond .ne 7, 3) := by decide +kernel
theorem dX8_isWord_46 : decode cX8_isWord 46 = .ok (.iload_n 2, 1) := by decide +kernel
theorem dX8_isWord_47 : decode cX8_isWord 47 = .ok (.goto 48, 3) := by decide +kernel
theorem dX8_isWord_50 : decode cX8_isWord 50 = .ok (.iload 9, 2) := by decide +kernel
theorem dX8_isWord_52 : decode cX8_isWord 52 = .ok (.iconst 1, 1) := by decide +kernel
theorem dX8_isWord_53 : decode cX8_isWord 53 = .ok (.if_icmp .ne 7, 3) := by decide +kernel
theorem dX8_isWord_56 : decode cX8_isWord 56 = .ok (.iload_n 3, 1) := by decide +kernel
theorem dX8_isWord_57 : decode cX8_isWord 57 = .ok (.goto 38, 3) := by decide +kernel
theorem dX8_isWord_60 : decode cX8_isWord 60 = .ok (.iload 9, 2) := by decide +kernel
theorem dX8_isWord_62 : decode cX8_isWord 62 = .ok (.iconst 2, 1) := by decide +kernel
theorem dX8_isWord_63 : decode cX8_isWord 63 = .ok (.if_icmp .ne 8, 3) := by decide +kernel
theorem dX8_isWord_66 : decode cX8_isWord 66 = .ok (.iload 4, 2) := by decide +kernel
theorem dX8_isWord_68 : decode cX8_isWord 68 = .ok (.goto 27, 3) := by decide +kernel
theorem dX8_isWord_71 : decode cX8_isWord 71 = .ok (.iload 9, 2) := by decide +kernel
theorem dX8_isWord_73 : decode cX8_isWord 73 = .ok (.iconst 3, 1) := by decide +kernel
theorem dX8_isWord_74 : decode cX8_isWord 74 = .ok (.if_icmp .ne 8, 3) := by decide +kernel
theorem dX8_isWord_77 : decode cX8_isWord 77 = .ok (.iload 5, 2) := by decide +kernel
theorem dX8_isWord_79 : decode cX8_isWord 79 = .ok (.goto 16, 3) := by decide +kernel
theorem dX8_isWord_82 : decode cX8_isWord 82 = .ok (.iload 9, 2) := by decide +kernel
theorem dX8_isWord_84 : decode cX8_isWord 84 = .ok (.iconst 4, 1) := by decide +kernel
theorem dX8_isWord_85 : decode cX8_isWord 85 = .ok (.if_icmp .ne 8, 3) := by decide +kernel
theorem dX8_isWord_88 : decode cX8_isWord 88 = .ok (.iload 6, 2) := by decide +kernel
theorem dX8_isWord_90 : decode cX8_isWord 90 = .ok (.goto 5, 3) := by decide +kernel
theorem dX8_isWord_93 : decode cX8_isWord 93 = .ok (.iload 7, 2) := by decide +kernel
theorem dX8_isWord_95 : decode cX8_isWord 95 = .ok (.if_icmp .ne 7, 3) := by decide +kernel
theorem dX8_isWord_98 : decode cX8_isWord 98 = .ok (.iconst 1, 1) := by decide +kernel
theorem dX8_isWord_99 : decode cX8_isWord 99 = .ok (.goto 4, 3) := by decide +kernel
theorem dX8_isWord_102 : decode cX8_isWord 102 = .ok (.iconst 0, 1) := by decide +kernel
theorem dX8_isWord_103 : decode cX8_isWord 103 = .ok (.istore 8, 2) := by decide +kernel
theorem dX8_isWord_105 : decode cX8_isWord 105 = .ok (.iinc 9 1, 3) := by decide +kernel
theorem dX8_isWord_108 : decode cX8_isWord 108 = .ok (.goto (-90), 3) := by decide +kernel
theorem dX8_isWord_111 : decode cX8_isWord 111 = .ok (.iload 8, 2) := by decide +kernel
theorem dX8_isWord_113 : decode cX8_isWord 113 = .ok (.ireturn, 1) := by decide +kernel
set_option maxRecDepth 20000 in
theorem ggX8_takeNumber_X8_here : GoodIn wsX8_takeNumber wsX8_here := goodIn_r _ [13, 2, 6, 7, 22, 23, 24, 25, 26, 27, 28, 29, 30, 31, 32, 33, 34, 35, 36, 37, 38, 39, 40, 41, 42, 43, 44, 45, 46, 47, 48, 49, 50, 51, 52, 53, 54, 55, 56] (by decide +kernel) (by decide +kernel)
set_option maxRecDepth 20000 in
theorem gX8_takeNumber_X8_here : GoodIn wsX8_takeNumber (wsV RX8 94 RX8 yX8_here wsX8_here) := goodIn_app (goodIn_of _ (by decide +kernel)) ggX8_takeNumber_X8_here
set_option maxRecDepth 20000 in
theorem ggX8_takeNumber_X8_in : GoodIn wsX8_takeNumber wsX8_in := goodIn_r _ [16] (by decide +kernel) (by decide +kernel)
set_option maxRecDepth 20000 in
theorem gX8_takeNumber_X8_in : GoodIn wsX8_takeNumber (va_wsS RX8 77 yX8_in wsX8_in) := goodIn_app (goodIn_of _ (by decide +kernel)) ggX8_takeNumber_X8_in
set_option maxRecDepth 20000 in
theorem ggX8_takeNumber_X8_want : GoodIn wsX8_takeNumber wsX8_want := goodIn_r _ [20, 1, 21, 22, 23, 24, 25, 26, 27, 28, 29, 30, 31, 32, 33, 34, 35, 36, 37, 38, 39, 40, 41, 42, 43, 44, 45, 46, 47, 48, 49, 50, 51, 52, 53, 54, 55, 56] (by decide +kernel) (by decide +kernel)
set_option maxRecDepth 20000 in
theorem gX8_takeNumber_X8_want : GoodIn wsX8_takeNumber (wsV RX8 112 RX8 yX8_want wsX8_want) := goodIn_app (goodIn_of _ (by decide +kernel)) ggX8_takeNumber_X8_want
theorem dX8_takeNumber_0 : decode cX8_takeNumber 0 = .ok (.aload_n 0, 1) := by decide +kernel
theorem dX8_takeNumber_1 : decode cX8_takeNumber 1 = .ok (.getfield 91, 3) := by decide +kernel
theorem dX8_takeNumber_4 : decode cX8_takeNumber 4 = .ok (.ifCond .le 5, 3) := by decide +kernel
theorem dX8_takeNumber_7 : decode cX8_takeNumber 7 = .ok (.iconst 0, 1) := by decide +kernel
theorem dX8_takeNumber_8 : decode cX8_takeNumber 8 = .ok (.ireturn, 1) := by decide +kernel
theorem dX8_takeNumber_9 : decode cX8_takeNumber 9 = .ok (.aload_n 0, 1) := by decide +kernel
theorem dX8_takeNumber_10 : decode cX8_takeNumber 10 = .ok (.invokevirtual 94, 3) := by decide +kernel
theorem dX8_takeNumber_13 : decode cX8_takeNumber 13 = .ok (.istore_n 3, 1) := by decide +kernel
theorem dX8_takeNumber_14 : decode cX8_takeNumber 14 = .ok (.aload_n 0, 1) := by decide +kernel
theorem dX8_takeNumber_15 : decode cX8_takeNumber 15 = .ok (.aload_n 0, 1) := by decide +kernel
theorem dX8_takeNumber_16 : decode cX8_takeNumber 16 = .ok (.getfield 88, 3) := by decide +kernel
theorem dX8_takeNumber_19 : decode cX8_takeNumber 19 = .ok (.putfield 98, 3) := by decide +kernel
theorem dX8_takeNumber_22 : decode cX8_takeNumber 22 = .ok (.aload_n 0, 1) := by decide +kernel
theorem dX8_takeNumber_23 : decode cX8_takeNumber 23 = .ok (.iload_n 3, 1) := by decide +kernel
theorem dX8_takeNumber_24 : decode cX8_takeNumber 24 = .ok (.i2l, 1) := by decide +kernel
theorem dX8_takeNumber_25 : decode cX8_takeNumber 25 = .ok (.ldc2_w 108, 3) := by decide +kernel
theorem dX8_takeNumber_28 : decode cX8_takeNumber 28 = .ok (.ldc2_w 110, 3) := by decide +kernel
theorem dX8_takeNumber_31 : decode cX8_takeNumber 31 = .ok (.invokestatic 77, 3) := by decide +kernel
theorem dX8_takeNumber_34 : decode cX8_takeNumber 34 = .ok (.iconst 1, 1) := by decide +kernel
theorem dX8_takeNumber_35 : decode cX8_takeNumber 35 = .ok (.aload_n 0, 1) := by decide +kernel
theorem dX8_takeNumber_36 : decode cX8_takeNumber 36 = .ok (.getfield 88, 3) := by decide +kernel
theorem dX8_takeNumber_39 : decode cX8_takeNumber 39 = .ok (.invokevirtual 112, 3) := by decide +kernel
theorem dX8_takeNumber_42 : decode cX8_takeNumber 42 = .ok (.ifCond .ne 5, 3) := by decide +kernel
theorem dX8_takeNumber_45 : decode cX8_takeNumber 45 = .ok (.iconst 0, 1) := by decide +kernel
theorem dX8_takeNumber_46 : decode cX8_takeNumber 46 = .ok (.ireturn, 1) := by decide +kernel
theorem dX8_takeNumber_47 : decode cX8_takeNumber 47 = .ok (.iconst 0, 1) := by decide +kernel
theorem dX8_takeNumber_48 : decode cX8_takeNumber 48 = .ok (.istore 4, 2) := by decide +kernel
theorem dX8_takeNumber_50 : decode cX8_takeNumber 50 = .ok (.aload_n 0, 1) := by decide +kernel
theorem dX8_takeNumber_51 : decode cX8_takeNumber 51 = .ok (.getfield 88, 3) := by decide +kernel
theorem dX8_takeNumber_54 : decode cX8_takeNumber 54 = .ok (.aload_n 0, 1) := by decide +kernel
theorem dX8_takeNumber_55 : decode cX8_takeNumber 55 = .ok (.getfield 82, 3) := by decide +kernel
theorem dX8_takeNumber_58 : decode cX8_takeNumber 58 = .ok (.if_icmp .ge 70, 3) := by decide +kernel
theorem dX8_takeNumber_61 : decode cX8_takeNumber 61 = .ok (.aload_n 0, 1) := by decide +kernel
theorem dX8_takeNumber_62 : decode cX8_takeNumber 62 = .ok (.getfield 47, 3) := by decide +kernel
theorem dX8_takeNumber_65 : decode cX8_takeNumber 65 = .ok (.aload_n 0, 1) := by decide +kernel
theorem dX8_takeNumber_66 : decode cX8_takeNumber 66 = .ok (.getfield 88, 3) := by decide +kernel
theorem dX8_takeNumber_69 : decode cX8_takeNumber 69 = .ok (.iaload, 1) := by decide +kernel
theorem dX8_takeNumber_70 : decode cX8_takeNumber 70 = .ok (.i2l, 1) := by decide +kernel
theorem dX8_takeNumber_71 : decode cX8_takeNumber 71 = .ok (.ldc2_w 108, 3) := by decide +kernel
theorem dX8_takeNumber_74 : decode cX8_takeNumber 74 = .ok (.ldc2_w 110, 3) := by decide +kernel
theorem dX8_takeNumber_77 : decode cX8_takeNumber 77 = .ok (.invokestatic 77, 3) := by decide +kernel
theorem dX8_takeNumber_80 : decode cX8_takeNumber 80 = .ok (.ifCond .eq 48, 3) := by decide +kernel
theorem dX8_takeNumber_83 : decode cX8_takeNumber 83 = .ok (.iload 4, 2) := by decide +kernel
theorem dX8_takeNumber_85 : decode cX8_takeNumber 85 = .ok (.ldc 116, 2) := by decide +kernel
theorem dX8_takeNumber_87 : decode cX8_takeNumber 87 = .ok (.if_icmp .le 8, 3) := by decide +kernel
theorem dX8_takeNumber_90 : decode cX8_takeNumber 90 = .ok (.iload 4, 2) := by decide +kernel
theorem dX8_takeNumber_92 : decode cX8_takeNumber 92 = .ok (.goto 21, 3) := by decide +kernel
theorem dX8_takeNumber_95 : decode cX8_takeNumber 95 = .ok (.bipush 10, 2) := by decide +kernel
theorem dX8_takeNumber_97 : decode cX8_takeNumber 97 = .ok (.iload 4, 2) := by decide +kernel
theorem dX8_takeNumber_99 : decode cX8_takeNumber 99 = .ok (.imul, 1) := by decide +kernel
theorem dX8_takeNumber_100 : decode cX8_takeNumber 100 = .ok (.aload_n 0, 1) := by decide +kernel
theorem dX8_takeNumber_101 : decode cX8_takeNumber 101 = .ok (.getfield 47, 3) := by decide +kernel
theorem dX8_takeNumber_104 : decode cX8_takeNumber 104 = .ok (.aload_n 0, 1) := by decide +kernel
theorem dX8_takeNumber_105 : decode cX8_takeNumber 105 = .ok (.getfield 88, 3) := by decide +kernel
theorem dX8_takeNumber_108 : decode cX8_takeNumber 108 = .ok (.iaload, 1) := by decide +kernel
theorem dX8_takeNumber_109 : decode cX8_takeNumber 109 = .ok (.iadd, 1) := by decide +kernel
theorem dX8_takeNumber_110 : decode cX8_takeNumber 110 = .ok (.bipush 48, 2) := by decide +kernel
theorem dX8_takeNumber_112 : decode cX8_takeNumber 112 = .ok (.isub, 1) := by decide +kernel
theorem dX8_takeNumber_113 : decode cX8_takeNumber 113 = .ok (.istore 4, 2) := by decide +kernel
theorem dX8_takeNumber_115 : decode cX8_takeNumber 115 = .ok (.aload_n 0, 1) := by decide +kernel
theorem dX8_takeNumber_116 : decode cX8_takeNumber 116 = .ok (.dup, 1) := by decide +kernel
theorem dX8_takeNumber_117 : decode cX8_takeNumber 117 = .ok (.getfield 88, 3) := by decide +kernel
theorem dX8_takeNumber_120 : decode cX8_takeNumber 120 = .ok (.iconst 1, 1) := by decide +kernel
theorem dX8_takeNumber_121 : decode cX8_takeNumber 121 = .ok (.iadd, 1) := by decide +kernel
theorem dX8_takeNumber_122 : decode cX8_takeNumber 122 = .ok (.putfield 88, 3) := by decide +kernel
theorem dX8_takeNumber_125 : decode cX8_takeNumber 125 = .ok (.goto (-75), 3) := by decide +kernel
theorem dX8_takeNumber_128 : decode cX8_takeNumber 128 = .ok (.aload_n 0, 1) := by decide +kernel
theorem dX8_takeNumber_129 : decode cX8_takeNumber 129 = .ok (.aload_n 0, 1) := by decide +kernel
theorem dX8_takeNumber_130 : decode cX8_takeNumber 130 = .ok (.getfield 88, 3) := by decide +kernel
theorem dX8_takeNumber_133 : decode cX8_takeNumber 133 = .ok (.aload_n 0, 1) := by decide +kernel
theorem dX8_takeNumber_134 : decode cX8_takeNumber 134 = .ok (.getfield 98, 3) := by decide +kernel
theorem dX8_takeNumber_137 : decode cX8_takeNumber 137 = .ok (.isub, 1) := by decide +kernel
theorem dX8_takeNumber_138 : decode cX8_takeNumber 138 = .ok (.iconst 4, 1) := by decide +kernel
theorem dX8_takeNumber_139 : decode cX8_takeNumber 139 = .ok (.if_icmp .ge 20, 3) := by decide +kernel
theorem dX8_takeNumber_142 : decode cX8_takeNumber 142 = .ok (.iload 4, 2) := by decide +kernel
theorem dX8_takeNumber_144 : decode cX8_takeNumber 144 = .ok (.i2l, 1) := by decide +kernel
theorem dX8_takeNumber_145 : decode cX8_takeNumber 145 = .ok (.iload_n 1, 1) := by decide +kernel
theorem dX8_takeNumber_146 : decode cX8_takeNumber 146 = .ok (.i2l, 1) := by decide +kernel
theorem dX8_takeNumber_147 : decode cX8_takeNumber 147 = .ok (.iload_n 2, 1) := by decide +kernel
theorem dX8_takeNumber_148 : decode cX8_takeNumber 148 = .ok (.i2l, 1) := by decide +kernel
theorem dX8_takeNumber_149 : decode cX8_takeNumber 149 = .ok (.invokestatic 77, 3) := by decide +kernel
theorem dX8_takeNumber_152 : decode cX8_takeNumber 152 = .ok (.ifCond .eq 7, 3) := by decide +kernel
theorem dX8_takeNumber_155 : decode cX8_takeNumber 155 = .ok (.iconst 1, 1) := by decide +kernel
theorem dX8_takeNumber_156 : decode cX8_takeNumber 156 = .ok (.goto 4, 3) := by decide +kernel
theorem dX8_takeNumber_159 : decode cX8_takeNumber 159 = .ok (.iconst 0, 1) := by decide +kernel
theorem dX8_takeNumber_160 : decode cX8_takeNumber 160 = .ok (.iconst 2, 1) := by decide +kernel
theorem dX8_takeNumber_161 : decode cX8_takeNumber 161 = .ok (.aload_n 0, 1) := by decide +kernel
theorem dX8_takeNumber_162 : decode cX8_takeNumber 162 = .ok (.getfield 98, 3) := by decide +kernel
theorem dX8_takeNumber_165 : decode cX8_takeNumber 165 = .ok (.invokevirtual 112, 3) := by decide +kernel
theorem dX8_takeNumber_168 : decode cX8_takeNumber 168 = .ok (.istore 5, 2) := by decide +kernel
theorem dX8_takeNumber_170 : decode cX8_takeNumber 170 = .ok (.iload 4, 2) := by decide +kernel
theorem dX8_takeNumber_172 : decode cX8_takeNumber 172 = .ok (.ireturn, 1) := by decide +kernel
set_option maxRecDepth 20000 in
theorem ggX8_takeCoin_X8_takeNumber : GoodIn wsX8_takeCoin wsX8_takeNumber := goodIn_r _ [9, 10, 11, 12, 13, 14, 15, 16, 17, 18, 19, 20, 8, 21, 22, 23, 24, 25, 26, 27, 28, 29, 30, 31, 32, 33, 34, 35, 36, 37, 38, 39, 40, 41, 42, 43, 44, 45, 46, 47, 48, 49, 50, 51, 52, 53, 54, 55, 56, 57, 58, 59, 60, 61, 62, 63, 64] (by decide +kernel) (by decide +kernel)
set_option maxRecDepth 20000 in
theorem gX8_takeCoin_X8_takeNumber : GoodIn wsX8_takeCoin (wsV RX8 120 RX8 yX8_takeNumber wsX8_takeNumber) := goodIn_app (goodIn_of _ (by decide +kernel)) ggX8_takeCoin_X8_takeNumber
theorem dX8_takeCoin_0 : decode cX8_takeCoin 0 = .ok (.iconst 5, 1) := by decide +kernel
theorem dX8_takeCoin_1 : decode cX8_takeCoin 1 = .ok (.aload_n 0, 1) := by decide +kernel
theorem dX8_takeCoin_2 : decode cX8_takeCoin 2 = .ok (.getfield 117, 3) := by decide +kernel
theorem dX8_takeCoin_5 : decode cX8_takeCoin 5 = .ok (.iadd, 1) := by decide +kernel
theorem dX8_takeCoin_6 : decode cX8_takeCoin 6 = .ok (.istore_n 1, 1) := by decide +kernel
theorem dX8_takeCoin_7 : decode cX8_takeCoin 7 = .ok (.aload_n 0, 1) := by decide +kernel
theorem dX8_takeCoin_8 : decode cX8_takeCoin 8 = .ok (.getfield 17, 3) := by decide +kernel
theorem dX8_takeCoin_11 : decode cX8_takeCoin 11 = .ok (.iload_n 1, 1) := by decide +kernel
theorem dX8_takeCoin_12 : decode cX8_takeCoin 12 = .ok (.aload_n 0, 1) := by decide +kernel
theorem dX8_takeCoin_13 : decode cX8_takeCoin 13 = .ok (.iconst 1, 1) := by decide +kernel
theorem dX8_takeCoin_14 : decode cX8_takeCoin 14 = .ok (.bipush 99, 2) := by decide +kernel
theorem dX8_takeCoin_16 : decode cX8_takeCoin 16 = .ok (.invokevirtual 120, 3) := by decide +kernel
theorem dX8_takeCoin_19 : decode cX8_takeCoin 19 = .ok (.iastore, 1) := by decide +kernel
theorem dX8_takeCoin_20 : decode cX8_takeCoin 20 = .ok (.aload_n 0, 1) := by decide +kernel
theorem dX8_takeCoin_21 : decode cX8_takeCoin 21 = .ok (.getfield 20, 3) := by decide +kernel
theorem dX8_takeCoin_24 : decode cX8_takeCoin 24 = .ok (.iload_n 1, 1) := by decide +kernel
theorem dX8_takeCoin_25 : decode cX8_takeCoin 25 = .ok (.aload_n 0, 1) := by decide +kernel
theorem dX8_takeCoin_26 : decode cX8_takeCoin 26 = .ok (.bipush 10, 2) := by decide +kernel
theorem dX8_takeCoin_28 : decode cX8_takeCoin 28 = .ok (.bipush 99, 2) := by decide +kernel
theorem dX8_takeCoin_30 : decode cX8_takeCoin 30 = .ok (.invokevirtual 120, 3) := by decide +kernel
theorem dX8_takeCoin_33 : decode cX8_takeCoin 33 = .ok (.iastore, 1) := by decide +kernel
theorem dX8_takeCoin_34 : decode cX8_takeCoin 34 = .ok (.aload_n 0, 1) := by decide +kernel
theorem dX8_takeCoin_35 : decode cX8_takeCoin 35 = .ok (.getfield 23, 3) := by decide +kernel
theorem dX8_takeCoin_38 : decode cX8_takeCoin 38 = .ok (.iload_n 1, 1) := by decide +kernel
theorem dX8_takeCoin_39 : decode cX8_takeCoin 39 = .ok (.aload_n 0, 1) := by decide +kernel
theorem dX8_takeCoin_40 : decode cX8_takeCoin 40 = .ok (.iconst 0, 1) := by decide +kernel
theorem dX8_takeCoin_41 : decode cX8_takeCoin 41 = .ok (.bipush 60, 2) := by decide +kernel
theorem dX8_takeCoin_43 : decode cX8_takeCoin 43 = .ok (.invokevirtual 120, 3) := by decide +kernel
theorem dX8_takeCoin_46 : decode cX8_takeCoin 46 = .ok (.iastore, 1) := by decide +kernel
theorem dX8_takeCoin_47 : decode cX8_takeCoin 47 = .ok (.aload_n 0, 1) := by decide +kernel
theorem dX8_takeCoin_48 : decode cX8_takeCoin 48 = .ok (.dup, 1) := by decide +kernel
theorem dX8_takeCoin_49 : decode cX8_takeCoin 49 = .ok (.getfield 117, 3) := by decide +kernel
theorem dX8_takeCoin_52 : decode cX8_takeCoin 52 = .ok (.iconst 1, 1) := by decide +kernel
theorem dX8_takeCoin_53 : decode cX8_takeCoin 53 = .ok (.iadd, 1) := by decide +kernel
theorem dX8_takeCoin_54 : decode cX8_takeCoin 54 = .ok (.putfield 117, 3) := by decide +kernel
theorem dX8_takeCoin_57 : decode cX8_takeCoin 57 = .ok (.return_, 1) := by decide +kernel
set_option maxRecDepth 20000 in
theorem ggX8_takeColumn_X8_takeNumber : GoodIn wsX8_takeColumn wsX8_takeNumber := goodIn_r _ [13, 14, 15, 5, 16, 17, 18, 19, 20, 21, 22, 23, 12, 24, 25, 26, 27, 28, 29, 30, 31, 32, 33, 34, 35, 36, 37, 38, 39, 40, 41, 42, 43, 44, 45, 46, 47, 48, 49, 50, 51, 52, 53, 54, 55, 56, 57, 58, 59, 60, 61, 62, 63, 64, 65, 66, 67] (by decide +kernel) (by decide +kernel)
set_option maxRecDepth 20000 in
theorem gX8_takeColumn_X8_takeNumber : GoodIn wsX8_takeColumn (wsV RX8 120 RX8 yX8_takeNumber wsX8_takeNumber) := goodIn_app (goodIn_of _ (by decide +kernel)) ggX8_takeColumn_X8_takeNumber
set_option maxRecDepth 20000 in
theorem ggX8_takeColumn_X8_want : GoodIn wsX8_takeColumn wsX8_want := goodIn_r _ [31, 14, 32, 33, 34, 35, 36, 37, 38, 39, 40, 41, 42, 43, 44, 45, 46, 47, 48, 49, 50, 51, 52, 53, 54, 55, 56, 57, 58, 59, 60, 61, 62, 63, 64, 65, 66, 67] (by decide +kernel) (by decide +kernel)
set_option maxRecDepth 20000 in
theorem gX8_takeColumn_X8_want : GoodIn wsX8_takeColumn (wsV RX8 112 RX8 yX8_want wsX8_want) := goodIn_app (goodIn_of _ (by decide +kernel)) ggX8_takeColumn_X8_want
theorem dX8_takeColumn_0 : decode cX8_takeColumn 0 = .ok (.iconst 5, 1) := by decide +kernel
theorem dX8_takeColumn_1 : decode cX8_takeColumn 1 = .ok (.aload_n 0, 1) := by decide +kernel
theorem dX8_takeColumn_2 : decode cX8_takeColumn 2 = .ok (.getfield 124, 3) := by decide +kernel
theorem dX8_takeColumn_5 : decode cX8_takeColumn 5 = .ok (.iadd, 1) := by decide +kernel
theorem dX8_takeColumn_6 : decode cX8_takeColumn 6 = .ok (.istore_n 1, 1) := by decide +kernel
theorem dX8_takeColumn_7 : decode cX8_takeColumn 7 = .ok (.aload_n 0, 1) := by decide +kernel
theorem dX8_takeColumn_8 : decode cX8_takeColumn 8 = .ok (.getfield 26, 3) := by decide +kernel
theorem dX8_takeColumn_11 : decode cX8_takeColumn 11 = .ok (.iload_n 1, 1) := by decide +kernel
theorem dX8_takeColumn_12 : decode cX8_takeColumn 12 = .ok (.aload_n 0, 1) := by decide +kernel
theorem dX8_takeColumn_13 : decode cX8_takeColumn 13 = .ok (.iconst 1, 1) := by decide +kernel
theorem dX8_takeColumn_14 : decode cX8_takeColumn 14 = .ok (.bipush 99, 2) := by decide +kernel
theorem dX8_takeColumn_16 : decode cX8_takeColumn 16 = .ok (.invokevirtual 120, 3) := by decide +kernel
theorem dX8_takeColumn_19 : decode cX8_takeColumn 19 = .ok (.iastore, 1) := by decide +kernel
theorem dX8_takeColumn_20 : decode cX8_takeColumn 20 = .ok (.aload_n 0, 1) := by decide +kernel
theorem dX8_takeColumn_21 : decode cX8_takeColumn 21 = .ok (.getfield 29, 3) := by decide +kernel
theorem dX8_takeColumn_24 : decode cX8_takeColumn 24 = .ok (.iload_n 1, 1) := by decide +kernel
theorem dX8_takeColumn_25 : decode cX8_takeColumn 25 = .ok (.aload_n 0, 1) := by decide +kernel
theorem dX8_takeColumn_26 : decode cX8_takeColumn 26 = .ok (.iconst 1, 1) := by decide +kernel
theorem dX8_takeColumn_27 : decode cX8_takeColumn 27 = .ok (.bipush 99, 2) := by decide +kernel
theorem dX8_takeColumn_29 : decode cX8_takeColumn 29 = .ok (.invokevirtual 120, 3) := by decide +kernel
theorem dX8_takeColumn_32 : decode cX8_takeColumn 32 = .ok (.iastore, 1) := by decide +kernel
theorem dX8_takeColumn_33 : decode cX8_takeColumn 33 = .ok (.aload_n 0, 1) := by decide +kernel
theorem dX8_takeColumn_34 : decode cX8_takeColumn 34 = .ok (.getfield 32, 3) := by decide +kernel
theorem dX8_takeColumn_37 : decode cX8_takeColumn 37 = .ok (.iload_n 1, 1) := by decide +kernel
theorem dX8_takeColumn_38 : decode cX8_takeColumn 38 = .ok (.aload_n 0, 1) := by decide +kernel
theorem dX8_takeColumn_39 : decode cX8_takeColumn 39 = .ok (.iconst 1, 1) := by decide +kernel
theorem dX8_takeColumn_40 : decode cX8_takeColumn 40 = .ok (.bipush 99, 2) := by decide +kernel
theorem dX8_takeColumn_42 : decode cX8_takeColumn 42 = .ok (.invokevirtual 120, 3) := by decide +kernel
theorem dX8_takeColumn_45 : decode cX8_takeColumn 45 = .ok (.iastore, 1) := by decide +kernel
theorem dX8_takeColumn_46 : decode cX8_takeColumn 46 = .ok (.aload_n 0, 1) := by decide +kernel
theorem dX8_takeColumn_47 : decode cX8_takeColumn 47 = .ok (.aload_n 0, 1) := by decide +kernel
theorem dX8_takeColumn_48 : decode cX8_takeColumn 48 = .ok (.getfield 32, 3) := by decide +kernel
theorem dX8_takeColumn_51 : decode cX8_takeColumn 51 = .ok (.iload_n 1, 1) := by decide +kernel
theorem dX8_takeColumn_52 : decode cX8_takeColumn 52 = .ok (.iaload, 1) := by decide +kernel
theorem dX8_takeColumn_53 : decode cX8_takeColumn 53 = .ok (.aload_n 0, 1) := by decide +kernel
theorem dX8_takeColumn_54 : decode cX8_takeColumn 54 = .ok (.getfield 29, 3) := by decide +kernel
theorem dX8_takeColumn_57 : decode cX8_takeColumn 57 = .ok (.iload_n 1, 1) := by decide +kernel
theorem dX8_takeColumn_58 : decode cX8_takeColumn 58 = .ok (.iaload, 1) := by decide +kernel
theorem dX8_takeColumn_59 : decode cX8_takeColumn 59 = .ok (.if_icmp .lt 7, 3) := by decide +kernel
theorem dX8_takeColumn_62 : decode cX8_takeColumn 62 = .ok (.iconst 1, 1) := by decide +kernel
theorem dX8_takeColumn_63 : decode cX8_takeColumn 63 = .ok (.goto 4, 3) := by decide +kernel
theorem dX8_takeColumn_66 : decode cX8_takeColumn 66 = .ok (.iconst 0, 1) := by decide +kernel
theorem dX8_takeColumn_67 : decode cX8_takeColumn 67 = .ok (.iconst 4, 1) := by decide +kernel
theorem dX8_takeColumn_68 : decode cX8_takeColumn 68 = .ok (.aload_n 0, 1) := by decide +kernel
theorem dX8_takeColumn_69 : decode cX8_takeColumn 69 = .ok (.getfield 98, 3) := by decide +kernel
theorem dX8_takeColumn_72 : decode cX8_takeColumn 72 = .ok (.invokevirtual 112, 3) := by decide +kernel
theorem dX8_takeColumn_75 : decode cX8_takeColumn 75 = .ok (.istore_n 2, 1) := by decide +kernel
theorem dX8_takeColumn_76 : decode cX8_takeColumn 76 = .ok (.aload_n 0, 1) := by decide +kernel
theorem dX8_takeColumn_77 : decode cX8_takeColumn 77 = .ok (.getfield 35, 3) := by decide +kernel
theorem dX8_takeColumn_80 : decode cX8_takeColumn 80 = .ok (.iload_n 1, 1) := by decide +kernel
theorem dX8_takeColumn_81 : decode cX8_takeColumn 81 = .ok (.aload_n 0, 1) := by decide +kernel
theorem dX8_takeColumn_82 : decode cX8_takeColumn 82 = .ok (.iconst 0, 1) := by decide +kernel
theorem dX8_takeColumn_83 : decode cX8_takeColumn 83 = .ok (.bipush 60, 2) := by decide +kernel
theorem dX8_takeColumn_85 : decode cX8_takeColumn 85 = .ok (.invokevirtual 120, 3) := by decide +kernel
theorem dX8_takeColumn_88 : decode cX8_takeColumn 88 = .ok (.iastore, 1) := by decide +kernel
theorem dX8_takeColumn_89 : decode cX8_takeColumn 89 = .ok (.aload_n 0, 1) := by decide +kernel
theorem dX8_takeColumn_90 : decode cX8_takeColumn 90 = .ok (.getfield 38, 3) := by decide +kernel
theorem dX8_takeColumn_93 : decode cX8_takeColumn 93 = .ok (.iload_n 1, 1) := by decide +kernel
theorem dX8_takeColumn_94 : decode cX8_takeColumn 94 = .ok (.iconst 0, 1) := by decide +kernel
theorem dX8_takeColumn_95 : decode cX8_takeColumn 95 = .ok (.iastore, 1) := by decide +kernel
theorem dX8_takeColumn_96 : decode cX8_takeColumn 96 = .ok (.aload_n 0, 1) := by decide +kernel
theorem dX8_takeColumn_97 : decode cX8_takeColumn 97 = .ok (.getfield 41, 3) := by decide +kernel
theorem dX8_takeColumn_100 : decode cX8_takeColumn 100 = .ok (.iload_n 1, 1) := by decide +kernel
theorem dX8_takeColumn_101 : decode cX8_takeColumn 101 = .ok (.iconst 1, 1) := by decide +kernel
theorem dX8_takeColumn_102 : decode cX8_takeColumn 102 = .ok (.iastore, 1) := by decide +kernel
theorem dX8_takeColumn_103 : decode cX8_takeColumn 103 = .ok (.aload_n 0, 1) := by decide +kernel
theorem dX8_takeColumn_104 : decode cX8_takeColumn 104 = .ok (.dup, 1) := by decide +kernel
theorem dX8_takeColumn_105 : decode cX8_takeColumn 105 = .ok (.getfield 124, 3) := by decide +kernel
theorem dX8_takeColumn_108 : decode cX8_takeColumn 108 = .ok (.iconst 1, 1) := by decide +kernel
theorem dX8_takeColumn_109 : decode cX8_takeColumn 109 = .ok (.iadd, 1) := by decide +kernel
