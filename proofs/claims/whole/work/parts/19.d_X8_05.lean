theorem dX8_column_5 : decode cX8_column 5 = .ok (.ifCond .ne 6, 3) := by decide +kernel
theorem dX8_column_8 : decode cX8_column 8 = .ok (.ldc 193, 2) := by decide +kernel
theorem dX8_column_10 : decode cX8_column 10 = .ok (.ireturn, 1) := by decide +kernel
theorem dX8_column_11 : decode cX8_column 11 = .ok (.iload_n 2, 1) := by decide +kernel
theorem dX8_column_12 : decode cX8_column 12 = .ok (.tableswitch 148 0 8 #[52, 62, 72, 82, 91, 101, 124, 134, 141], 52) := by decide +kernel
theorem dX8_column_64 : decode cX8_column 64 = .ok (.aload_n 0, 1) := by decide +kernel
theorem dX8_column_65 : decode cX8_column 65 = .ok (.getfield 7, 3) := by decide +kernel
theorem dX8_column_68 : decode cX8_column 68 = .ok (.bipush 25, 2) := by decide +kernel
theorem dX8_column_70 : decode cX8_column 70 = .ok (.iload_n 1, 1) := by decide +kernel
theorem dX8_column_71 : decode cX8_column 71 = .ok (.iadd, 1) := by decide +kernel
theorem dX8_column_72 : decode cX8_column 72 = .ok (.iaload, 1) := by decide +kernel
theorem dX8_column_73 : decode cX8_column 73 = .ok (.ireturn, 1) := by decide +kernel
theorem dX8_column_74 : decode cX8_column 74 = .ok (.aload_n 0, 1) := by decide +kernel
theorem dX8_column_75 : decode cX8_column 75 = .ok (.getfield 7, 3) := by decide +kernel
theorem dX8_column_78 : decode cX8_column 78 = .ok (.bipush 30, 2) := by decide +kernel
theorem dX8_column_80 : decode cX8_column 80 = .ok (.iload_n 1, 1) := by decide +kernel
theorem dX8_column_81 : decode cX8_column 81 = .ok (.iadd, 1) := by decide +kernel
theorem dX8_column_82 : decode cX8_column 82 = .ok (.iaload, 1) := by decide +kernel
theorem dX8_column_83 : decode cX8_column 83 = .ok (.ireturn, 1) := by decide +kernel
theorem dX8_column_84 : decode cX8_column 84 = .ok (.aload_n 0, 1) := by decide +kernel
theorem dX8_column_85 : decode cX8_column 85 = .ok (.getfield 7, 3) := by decide +kernel
theorem dX8_column_88 : decode cX8_column 88 = .ok (.bipush 35, 2) := by decide +kernel
theorem dX8_column_90 : decode cX8_column 90 = .ok (.iload_n 1, 1) := by decide +kernel
theorem dX8_column_91 : decode cX8_column 91 = .ok (.iadd, 1) := by decide +kernel
theorem dX8_column_92 : decode cX8_column 92 = .ok (.iaload, 1) := by decide +kernel
theorem dX8_column_93 : decode cX8_column 93 = .ok (.ireturn, 1) := by decide +kernel
theorem dX8_column_94 : decode cX8_column 94 = .ok (.aload_n 0, 1) := by decide +kernel
theorem dX8_column_95 : decode cX8_column 95 = .ok (.getfield 7, 3) := by decide +kernel
theorem dX8_column_98 : decode cX8_column 98 = .ok (.iconst 5, 1) := by decide +kernel
theorem dX8_column_99 : decode cX8_column 99 = .ok (.iload_n 1, 1) := by decide +kernel
theorem dX8_column_100 : decode cX8_column 100 = .ok (.iadd, 1) := by decide +kernel
theorem dX8_column_101 : decode cX8_column 101 = .ok (.iaload, 1) := by decide +kernel
theorem dX8_column_102 : decode cX8_column 102 = .ok (.ireturn, 1) := by decide +kernel
theorem dX8_column_103 : decode cX8_column 103 = .ok (.aload_n 0, 1) := by decide +kernel
theorem dX8_column_104 : decode cX8_column 104 = .ok (.getfield 7, 3) := by decide +kernel
theorem dX8_column_107 : decode cX8_column 107 = .ok (.bipush 10, 2) := by decide +kernel
theorem dX8_column_109 : decode cX8_column 109 = .ok (.iload_n 1, 1) := by decide +kernel
theorem dX8_column_110 : decode cX8_column 110 = .ok (.iadd, 1) := by decide +kernel
theorem dX8_column_111 : decode cX8_column 111 = .ok (.iaload, 1) := by decide +kernel
theorem dX8_column_112 : decode cX8_column 112 = .ok (.ireturn, 1) := by decide +kernel
theorem dX8_column_113 : decode cX8_column 113 = .ok (.aload_n 0, 1) := by decide +kernel
theorem dX8_column_114 : decode cX8_column 114 = .ok (.getfield 7, 3) := by decide +kernel
theorem dX8_column_117 : decode cX8_column 117 = .ok (.bipush 10, 2) := by decide +kernel
theorem dX8_column_119 : decode cX8_column 119 = .ok (.iload_n 1, 1) := by decide +kernel
theorem dX8_column_120 : decode cX8_column 120 = .ok (.iadd, 1) := by decide +kernel
theorem dX8_column_121 : decode cX8_column 121 = .ok (.iaload, 1) := by decide +kernel
theorem dX8_column_122 : decode cX8_column 122 = .ok (.bipush 10, 2) := by decide +kernel
theorem dX8_column_124 : decode cX8_column 124 = .ok (.if_icmp .lt 7, 3) := by decide +kernel
theorem dX8_column_127 : decode cX8_column 127 = .ok (.iconst 1, 1) := by decide +kernel
theorem dX8_column_128 : decode cX8_column 128 = .ok (.goto 4, 3) := by decide +kernel
theorem dX8_column_131 : decode cX8_column 131 = .ok (.iconst 0, 1) := by decide +kernel
theorem dX8_column_132 : decode cX8_column 132 = .ok (.invokestatic 141, 3) := by decide +kernel
theorem dX8_column_135 : decode cX8_column 135 = .ok (.ireturn, 1) := by decide +kernel
theorem dX8_column_136 : decode cX8_column 136 = .ok (.aload_n 0, 1) := by decide +kernel
theorem dX8_column_137 : decode cX8_column 137 = .ok (.getfield 7, 3) := by decide +kernel
theorem dX8_column_140 : decode cX8_column 140 = .ok (.bipush 40, 2) := by decide +kernel
theorem dX8_column_142 : decode cX8_column 142 = .ok (.iload_n 1, 1) := by decide +kernel
theorem dX8_column_143 : decode cX8_column 143 = .ok (.iadd, 1) := by decide +kernel
theorem dX8_column_144 : decode cX8_column 144 = .ok (.iaload, 1) := by decide +kernel
theorem dX8_column_145 : decode cX8_column 145 = .ok (.ireturn, 1) := by decide +kernel
theorem dX8_column_146 : decode cX8_column 146 = .ok (.aload_n 0, 1) := by decide +kernel
theorem dX8_column_147 : decode cX8_column 147 = .ok (.iload_n 1, 1) := by decide +kernel
theorem dX8_column_148 : decode cX8_column 148 = .ok (.iconst 0, 1) := by decide +kernel
theorem dX8_column_149 : decode cX8_column 149 = .ok (.invokevirtual 201, 3) := by decide +kernel
theorem dX8_column_152 : decode cX8_column 152 = .ok (.ireturn, 1) := by decide +kernel
theorem dX8_column_153 : decode cX8_column 153 = .ok (.aload_n 0, 1) := by decide +kernel
theorem dX8_column_154 : decode cX8_column 154 = .ok (.iload_n 1, 1) := by decide +kernel
theorem dX8_column_155 : decode cX8_column 155 = .ok (.iconst 1, 1) := by decide +kernel
theorem dX8_column_156 : decode cX8_column 156 = .ok (.invokevirtual 201, 3) := by decide +kernel
theorem dX8_column_159 : decode cX8_column 159 = .ok (.ireturn, 1) := by decide +kernel
theorem dX8_column_160 : decode cX8_column 160 = .ok (.ldc 81, 2) := by decide +kernel
theorem dX8_column_162 : decode cX8_column 162 = .ok (.ireturn, 1) := by decide +kernel
theorem dX8_held_0 : decode cX8_held 0 = .ok (.lload_n 0, 1) := by decide +kernel
theorem dX8_held_1 : decode cX8_held 1 = .ok (.ldc2_w 205, 3) := by decide +kernel
theorem dX8_held_4 : decode cX8_held 4 = .ok (.lcmp, 1) := by decide +kernel
theorem dX8_held_5 : decode cX8_held 5 = .ok (.ifCond .le 8, 3) := by decide +kernel
theorem dX8_held_8 : decode cX8_held 8 = .ok (.ldc 207, 2) := by decide +kernel
theorem dX8_held_10 : decode cX8_held 10 = .ok (.goto 5, 3) := by decide +kernel
theorem dX8_held_13 : decode cX8_held 13 = .ok (.lload_n 0, 1) := by decide +kernel
theorem dX8_held_14 : decode cX8_held 14 = .ok (.l2i, 1) := by decide +kernel
theorem dX8_held_15 : decode cX8_held 15 = .ok (.ireturn, 1) := by decide +kernel
set_option maxRecDepth 20000 in
theorem ggX8_putIn_X8_held : GoodIn wsX8_putIn wsX8_held := goodIn_r _ [5, 6, 7] (by decide +kernel) (by decide +kernel)
set_option maxRecDepth 20000 in
theorem gX8_putIn_X8_held : GoodIn wsX8_putIn (va_wsS RX8 208 yX8_held wsX8_held) := goodIn_app (goodIn_of _ (by decide +kernel)) ggX8_putIn_X8_held
theorem dX8_putIn_0 : decode cX8_putIn 0 = .ok (.aload_n 0, 1) := by decide +kernel
theorem dX8_putIn_1 : decode cX8_putIn 1 = .ok (.getfield 7, 3) := by decide +kernel
theorem dX8_putIn_4 : decode cX8_putIn 4 = .ok (.iload_n 1, 1) := by decide +kernel
theorem dX8_putIn_5 : decode cX8_putIn 5 = .ok (.iload_n 2, 1) := by decide +kernel
theorem dX8_putIn_6 : decode cX8_putIn 6 = .ok (.iadd, 1) := by decide +kernel
theorem dX8_putIn_7 : decode cX8_putIn 7 = .ok (.iaload, 1) := by decide +kernel
theorem dX8_putIn_8 : decode cX8_putIn 8 = .ok (.iload_n 3, 1) := by decide +kernel
theorem dX8_putIn_9 : decode cX8_putIn 9 = .ok (.iadd, 1) := by decide +kernel
theorem dX8_putIn_10 : decode cX8_putIn 10 = .ok (.istore 4, 2) := by decide +kernel
theorem dX8_putIn_12 : decode cX8_putIn 12 = .ok (.aload_n 0, 1) := by decide +kernel
theorem dX8_putIn_13 : decode cX8_putIn 13 = .ok (.getfield 7, 3) := by decide +kernel
theorem dX8_putIn_16 : decode cX8_putIn 16 = .ok (.iload_n 1, 1) := by decide +kernel
theorem dX8_putIn_17 : decode cX8_putIn 17 = .ok (.iload_n 2, 1) := by decide +kernel
theorem dX8_putIn_18 : decode cX8_putIn 18 = .ok (.iadd, 1) := by decide +kernel
theorem dX8_putIn_19 : decode cX8_putIn 19 = .ok (.iload 4, 2) := by decide +kernel
theorem dX8_putIn_21 : decode cX8_putIn 21 = .ok (.bipush 60, 2) := by decide +kernel
theorem dX8_putIn_23 : decode cX8_putIn 23 = .ok (.if_icmp .le 8, 3) := by decide +kernel
theorem dX8_putIn_26 : decode cX8_putIn 26 = .ok (.bipush 60, 2) := by decide +kernel
theorem dX8_putIn_28 : decode cX8_putIn 28 = .ok (.goto 5, 3) := by decide +kernel
theorem dX8_putIn_31 : decode cX8_putIn 31 = .ok (.iload 4, 2) := by decide +kernel
theorem dX8_putIn_33 : decode cX8_putIn 33 = .ok (.iastore, 1) := by decide +kernel
theorem dX8_putIn_34 : decode cX8_putIn 34 = .ok (.aload_n 0, 1) := by decide +kernel
theorem dX8_putIn_35 : decode cX8_putIn 35 = .ok (.getfield 7, 3) := by decide +kernel
theorem dX8_putIn_38 : decode cX8_putIn 38 = .ok (.iload_n 1, 1) := by decide +kernel
theorem dX8_putIn_39 : decode cX8_putIn 39 = .ok (.bipush 45, 2) := by decide +kernel
theorem dX8_putIn_41 : decode cX8_putIn 41 = .ok (.iadd, 1) := by decide +kernel
theorem dX8_putIn_42 : decode cX8_putIn 42 = .ok (.aload_n 0, 1) := by decide +kernel
theorem dX8_putIn_43 : decode cX8_putIn 43 = .ok (.getfield 7, 3) := by decide +kernel
theorem dX8_putIn_46 : decode cX8_putIn 46 = .ok (.iload_n 1, 1) := by decide +kernel
theorem dX8_putIn_47 : decode cX8_putIn 47 = .ok (.bipush 45, 2) := by decide +kernel
theorem dX8_putIn_49 : decode cX8_putIn 49 = .ok (.iadd, 1) := by decide +kernel
theorem dX8_putIn_50 : decode cX8_putIn 50 = .ok (.iaload, 1) := by decide +kernel
theorem dX8_putIn_51 : decode cX8_putIn 51 = .ok (.i2l, 1) := by decide +kernel
theorem dX8_putIn_52 : decode cX8_putIn 52 = .ok (.iload 4, 2) := by decide +kernel
theorem dX8_putIn_54 : decode cX8_putIn 54 = .ok (.i2l, 1) := by decide +kernel
theorem dX8_putIn_55 : decode cX8_putIn 55 = .ok (.ladd, 1) := by decide +kernel
theorem dX8_putIn_56 : decode cX8_putIn 56 = .ok (.aload_n 0, 1) := by decide +kernel
theorem dX8_putIn_57 : decode cX8_putIn 57 = .ok (.getfield 7, 3) := by decide +kernel
theorem dX8_putIn_60 : decode cX8_putIn 60 = .ok (.iload_n 1, 1) := by decide +kernel
theorem dX8_putIn_61 : decode cX8_putIn 61 = .ok (.iload_n 2, 1) := by decide +kernel
theorem dX8_putIn_62 : decode cX8_putIn 62 = .ok (.iadd, 1) := by decide +kernel
theorem dX8_putIn_63 : decode cX8_putIn 63 = .ok (.iaload, 1) := by decide +kernel
theorem dX8_putIn_64 : decode cX8_putIn 64 = .ok (.i2l, 1) := by decide +kernel
theorem dX8_putIn_65 : decode cX8_putIn 65 = .ok (.lsub, 1) := by decide +kernel
theorem dX8_putIn_66 : decode cX8_putIn 66 = .ok (.invokestatic 208, 3) := by decide +kernel
theorem dX8_putIn_69 : decode cX8_putIn 69 = .ok (.iastore, 1) := by decide +kernel
theorem dX8_putIn_70 : decode cX8_putIn 70 = .ok (.return_, 1) := by decide +kernel
set_option maxRecDepth 20000 in
theorem ggX8_greatest_X8_has : GoodIn wsX8_greatest wsX8_has := goodIn_r _ [6] (by decide +kernel) (by decide +kernel)
set_option maxRecDepth 20000 in
theorem gX8_greatest_X8_has : GoodIn wsX8_greatest (va_wsS RX8 130 yX8_has wsX8_has) := goodIn_app (goodIn_of _ (by decide +kernel)) ggX8_greatest_X8_has
theorem dX8_greatest_0 : decode cX8_greatest 0 = .ok (.iconst (-1), 1) := by decide +kernel
theorem dX8_greatest_1 : decode cX8_greatest 1 = .ok (.istore_n 2, 1) := by decide +kernel
theorem dX8_greatest_2 : decode cX8_greatest 2 = .ok (.iconst 0, 1) := by decide +kernel
theorem dX8_greatest_3 : decode cX8_greatest 3 = .ok (.istore_n 3, 1) := by decide +kernel
theorem dX8_greatest_4 : decode cX8_greatest 4 = .ok (.iload_n 3, 1) := by decide +kernel
theorem dX8_greatest_5 : decode cX8_greatest 5 = .ok (.aload_n 0, 1) := by decide +kernel
theorem dX8_greatest_6 : decode cX8_greatest 6 = .ok (.getfield 164, 3) := by decide +kernel
theorem dX8_greatest_9 : decode cX8_greatest 9 = .ok (.if_icmp .ge 42, 3) := by decide +kernel
theorem dX8_greatest_12 : decode cX8_greatest 12 = .ok (.iload_n 1, 1) := by decide +kernel
theorem dX8_greatest_13 : decode cX8_greatest 13 = .ok (.iload_n 3, 1) := by decide +kernel
theorem dX8_greatest_14 : decode cX8_greatest 14 = .ok (.invokestatic 130, 3) := by decide +kernel
theorem dX8_greatest_17 : decode cX8_greatest 17 = .ok (.ifCond .ne 26, 3) := by decide +kernel
theorem dX8_greatest_20 : decode cX8_greatest 20 = .ok (.iload_n 2, 1) := by decide +kernel
theorem dX8_greatest_21 : decode cX8_greatest 21 = .ok (.ifCond .lt 18, 3) := by decide +kernel
theorem dX8_greatest_24 : decode cX8_greatest 24 = .ok (.aload_n 0, 1) := by decide +kernel
theorem dX8_greatest_25 : decode cX8_greatest 25 = .ok (.getfield 17, 3) := by decide +kernel
theorem dX8_greatest_28 : decode cX8_greatest 28 = .ok (.iload_n 3, 1) := by decide +kernel
theorem dX8_greatest_29 : decode cX8_greatest 29 = .ok (.iaload, 1) := by decide +kernel
theorem dX8_greatest_30 : decode cX8_greatest 30 = .ok (.aload_n 0, 1) := by decide +kernel
theorem dX8_greatest_31 : decode cX8_greatest 31 = .ok (.getfield 17, 3) := by decide +kernel
theorem dX8_greatest_34 : decode cX8_greatest 34 = .ok (.iload_n 2, 1) := by decide +kernel
theorem dX8_greatest_35 : decode cX8_greatest 35 = .ok (.iaload, 1) := by decide +kernel
theorem dX8_greatest_36 : decode cX8_greatest 36 = .ok (.if_icmp .le 7, 3) := by decide +kernel
theorem dX8_greatest_39 : decode cX8_greatest 39 = .ok (.iload_n 3, 1) := by decide +kernel
theorem dX8_greatest_40 : decode cX8_greatest 40 = .ok (.goto 4, 3) := by decide +kernel
theorem dX8_greatest_43 : decode cX8_greatest 43 = .ok (.iload_n 2, 1) := by decide +kernel
theorem dX8_greatest_44 : decode cX8_greatest 44 = .ok (.istore_n 2, 1) := by decide +kernel
theorem dX8_greatest_45 : decode cX8_greatest 45 = .ok (.iinc 3 1, 3) := by decide +kernel
theorem dX8_greatest_48 : decode cX8_greatest 48 = .ok (.goto (-44), 3) := by decide +kernel
theorem dX8_greatest_51 : decode cX8_greatest 51 = .ok (.iload_n 2, 1) := by decide +kernel
theorem dX8_greatest_52 : decode cX8_greatest 52 = .ok (.ireturn, 1) := by decide +kernel
set_option maxRecDepth 20000 in
theorem ggX8_payBack_X8_greatest : GoodIn wsX8_payBack wsX8_greatest := goodIn_r _ [8, 1, 2, 9, 10, 7, 11, 12, 13, 14, 15, 16, 17, 18, 19, 20, 21, 22, 23, 24, 25, 26, 27, 28, 29, 30, 31, 32, 33, 34, 35, 36, 37, 38, 39, 40, 41, 42, 43, 44, 45, 46] (by decide +kernel) (by decide +kernel)
set_option maxRecDepth 20000 in
theorem gX8_payBack_X8_greatest : GoodIn wsX8_payBack (wsV RX8 212 RX8 yX8_greatest wsX8_greatest) := goodIn_app (goodIn_of _ (by decide +kernel)) ggX8_payBack_X8_greatest
theorem dX8_payBack_0 : decode cX8_payBack 0 = .ok (.iload_n 2, 1) := by decide +kernel
theorem dX8_payBack_1 : decode cX8_payBack 1 = .ok (.istore_n 3, 1) := by decide +kernel
theorem dX8_payBack_2 : decode cX8_payBack 2 = .ok (.iconst 0, 1) := by decide +kernel
theorem dX8_payBack_3 : decode cX8_payBack 3 = .ok (.istore 4, 2) := by decide +kernel
theorem dX8_payBack_5 : decode cX8_payBack 5 = .ok (.iconst 0, 1) := by decide +kernel
theorem dX8_payBack_6 : decode cX8_payBack 6 = .ok (.istore 5, 2) := by decide +kernel
theorem dX8_payBack_8 : decode cX8_payBack 8 = .ok (.iload 5, 2) := by decide +kernel
theorem dX8_payBack_10 : decode cX8_payBack 10 = .ok (.aload_n 0, 1) := by decide +kernel
theorem dX8_payBack_11 : decode cX8_payBack 11 = .ok (.getfield 164, 3) := by decide +kernel
theorem dX8_payBack_14 : decode cX8_payBack 14 = .ok (.if_icmp .ge 94, 3) := by decide +kernel
theorem dX8_payBack_17 : decode cX8_payBack 17 = .ok (.aload_n 0, 1) := by decide +kernel
theorem dX8_payBack_18 : decode cX8_payBack 18 = .ok (.iload 4, 2) := by decide +kernel
theorem dX8_payBack_20 : decode cX8_payBack 20 = .ok (.invokevirtual 212, 3) := by decide +kernel
theorem dX8_payBack_23 : decode cX8_payBack 23 = .ok (.istore 6, 2) := by decide +kernel
theorem dX8_payBack_25 : decode cX8_payBack 25 = .ok (.iload 4, 2) := by decide +kernel
theorem dX8_payBack_27 : decode cX8_payBack 27 = .ok (.iconst 1, 1) := by decide +kernel
theorem dX8_payBack_28 : decode cX8_payBack 28 = .ok (.iload 6, 2) := by decide +kernel
theorem dX8_payBack_30 : decode cX8_payBack 30 = .ok (.ishl, 1) := by decide +kernel
theorem dX8_payBack_31 : decode cX8_payBack 31 = .ok (.ior, 1) := by decide +kernel
theorem dX8_payBack_32 : decode cX8_payBack 32 = .ok (.istore 4, 2) := by decide +kernel
theorem dX8_payBack_34 : decode cX8_payBack 34 = .ok (.iload_n 3, 1) := by decide +kernel
theorem dX8_payBack_35 : decode cX8_payBack 35 = .ok (.aload_n 0, 1) := by decide +kernel
theorem dX8_payBack_36 : decode cX8_payBack 36 = .ok (.getfield 17, 3) := by decide +kernel
theorem dX8_payBack_39 : decode cX8_payBack 39 = .ok (.iload 6, 2) := by decide +kernel
theorem dX8_payBack_41 : decode cX8_payBack 41 = .ok (.iaload, 1) := by decide +kernel
theorem dX8_payBack_42 : decode cX8_payBack 42 = .ok (.idiv, 1) := by decide +kernel
theorem dX8_payBack_43 : decode cX8_payBack 43 = .ok (.istore 7, 2) := by decide +kernel
theorem dX8_payBack_45 : decode cX8_payBack 45 = .ok (.iload 7, 2) := by decide +kernel
theorem dX8_payBack_47 : decode cX8_payBack 47 = .ok (.aload_n 0, 1) := by decide +kernel
theorem dX8_payBack_48 : decode cX8_payBack 48 = .ok (.getfield 7, 3) := by decide +kernel
theorem dX8_payBack_51 : decode cX8_payBack 51 = .ok (.iload_n 1, 1) := by decide +kernel
theorem dX8_payBack_52 : decode cX8_payBack 52 = .ok (.iload 6, 2) := by decide +kernel
theorem dX8_payBack_54 : decode cX8_payBack 54 = .ok (.iadd, 1) := by decide +kernel
theorem dX8_payBack_55 : decode cX8_payBack 55 = .ok (.iaload, 1) := by decide +kernel
theorem dX8_payBack_56 : decode cX8_payBack 56 = .ok (.if_icmp .ge 8, 3) := by decide +kernel
theorem dX8_payBack_59 : decode cX8_payBack 59 = .ok (.iload 7, 2) := by decide +kernel
theorem dX8_payBack_61 : decode cX8_payBack 61 = .ok (.goto 12, 3) := by decide +kernel
theorem dX8_payBack_64 : decode cX8_payBack 64 = .ok (.aload_n 0, 1) := by decide +kernel
theorem dX8_payBack_65 : decode cX8_payBack 65 = .ok (.getfield 7, 3) := by decide +kernel
theorem dX8_payBack_68 : decode cX8_payBack 68 = .ok (.iload_n 1, 1) := by decide +kernel
theorem dX8_payBack_69 : decode cX8_payBack 69 = .ok (.iload 6, 2) := by decide +kernel
theorem dX8_payBack_71 : decode cX8_payBack 71 = .ok (.iadd, 1) := by decide +kernel
theorem dX8_payBack_72 : decode cX8_payBack 72 = .ok (.iaload, 1) := by decide +kernel
theorem dX8_payBack_73 : decode cX8_payBack 73 = .ok (.istore 7, 2) := by decide +kernel
theorem dX8_payBack_75 : decode cX8_payBack 75 = .ok (.aload_n 0, 1) := by decide +kernel
theorem dX8_payBack_76 : decode cX8_payBack 76 = .ok (.getfield 7, 3) := by decide +kernel
theorem dX8_payBack_79 : decode cX8_payBack 79 = .ok (.iload_n 1, 1) := by decide +kernel
theorem dX8_payBack_80 : decode cX8_payBack 80 = .ok (.iload 6, 2) := by decide +kernel
theorem dX8_payBack_82 : decode cX8_payBack 82 = .ok (.iadd, 1) := by decide +kernel
theorem dX8_payBack_83 : decode cX8_payBack 83 = .ok (.dup2, 1) := by decide +kernel
theorem dX8_payBack_84 : decode cX8_payBack 84 = .ok (.iaload, 1) := by decide +kernel
theorem dX8_payBack_85 : decode cX8_payBack 85 = .ok (.iload 7, 2) := by decide +kernel
theorem dX8_payBack_87 : decode cX8_payBack 87 = .ok (.isub, 1) := by decide +kernel
theorem dX8_payBack_88 : decode cX8_payBack 88 = .ok (.iastore, 1) := by decide +kernel
theorem dX8_payBack_89 : decode cX8_payBack 89 = .ok (.iload_n 3, 1) := by decide +kernel
theorem dX8_payBack_90 : decode cX8_payBack 90 = .ok (.iload 7, 2) := by decide +kernel
theorem dX8_payBack_92 : decode cX8_payBack 92 = .ok (.aload_n 0, 1) := by decide +kernel
theorem dX8_payBack_93 : decode cX8_payBack 93 = .ok (.getfield 17, 3) := by decide +kernel
theorem dX8_payBack_96 : decode cX8_payBack 96 = .ok (.iload 6, 2) := by decide +kernel
theorem dX8_payBack_98 : decode cX8_payBack 98 = .ok (.iaload, 1) := by decide +kernel
theorem dX8_payBack_99 : decode cX8_payBack 99 = .ok (.imul, 1) := by decide +kernel
theorem dX8_payBack_100 : decode cX8_payBack 100 = .ok (.isub, 1) := by decide +kernel
theorem dX8_payBack_101 : decode cX8_payBack 101 = .ok (.istore_n 3, 1) := by decide +kernel
theorem dX8_payBack_102 : decode cX8_payBack 102 = .ok (.iinc 5 1, 3) := by decide +kernel
theorem dX8_payBack_105 : decode cX8_payBack 105 = .ok (.goto (-97), 3) := by decide +kernel
theorem dX8_payBack_108 : decode cX8_payBack 108 = .ok (.iload_n 3, 1) := by decide +kernel
theorem dX8_payBack_109 : decode cX8_payBack 109 = .ok (.ireturn, 1) := by decide +kernel
set_option maxRecDepth 20000 in
theorem ggX8_canBuy_X8_weightIn : GoodIn wsX8_canBuy wsX8_weightIn := goodIn_r _ [7, 8, 1, 16, 17, 18, 19, 20, 21, 22, 23, 24, 25, 26, 27, 28, 29, 30, 31, 32, 33, 34, 35, 36, 37, 38, 39, 40, 41, 42, 43, 44, 45, 46, 47, 48, 49, 50] (by decide +kernel) (by decide +kernel)
set_option maxRecDepth 20000 in
theorem gX8_canBuy_X8_weightIn : GoodIn wsX8_canBuy (wsV RX8 182 RX8 yX8_weightIn wsX8_weightIn) := goodIn_app (goodIn_of _ (by decide +kernel)) ggX8_canBuy_X8_weightIn
set_option maxRecDepth 20000 in
theorem ggX8_canBuy_X8_passes : GoodIn wsX8_canBuy wsX8_passes := goodIn_r _ [12, 1, 13, 14, 6, 15, 16, 17, 18, 19, 20, 21, 22, 23, 24, 25, 26, 27, 28, 29, 30, 31, 32, 33, 34, 35, 36, 37, 38, 39, 40, 41, 42, 43, 44, 45, 46, 47, 48, 49, 50] (by decide +kernel) (by decide +kernel)
set_option maxRecDepth 20000 in
theorem gX8_canBuy_X8_passes : GoodIn wsX8_canBuy (wsV RX8 185 RX8 yX8_passes wsX8_passes) := goodIn_app (goodIn_of _ (by decide +kernel)) ggX8_canBuy_X8_passes
theorem dX8_canBuy_0 : decode cX8_canBuy 0 = .ok (.aload_n 0, 1) := by decide +kernel
theorem dX8_canBuy_1 : decode cX8_canBuy 1 = .ok (.getfield 7, 3) := by decide +kernel
theorem dX8_canBuy_4 : decode cX8_canBuy 4 = .ok (.iload_n 1, 1) := by decide +kernel
theorem dX8_canBuy_5 : decode cX8_canBuy 5 = .ok (.bipush 10, 2) := by decide +kernel
theorem dX8_canBuy_7 : decode cX8_canBuy 7 = .ok (.iadd, 1) := by decide +kernel
theorem dX8_canBuy_8 : decode cX8_canBuy 8 = .ok (.iload_n 2, 1) := by decide +kernel
theorem dX8_canBuy_9 : decode cX8_canBuy 9 = .ok (.iadd, 1) := by decide +kernel
theorem dX8_canBuy_10 : decode cX8_canBuy 10 = .ok (.iaload, 1) := by decide +kernel
theorem dX8_canBuy_11 : decode cX8_canBuy 11 = .ok (.bipush 10, 2) := by decide +kernel
theorem dX8_canBuy_13 : decode cX8_canBuy 13 = .ok (.if_icmp .ge 68, 3) := by decide +kernel
theorem dX8_canBuy_16 : decode cX8_canBuy 16 = .ok (.aload_n 0, 1) := by decide +kernel
theorem dX8_canBuy_17 : decode cX8_canBuy 17 = .ok (.iload_n 1, 1) := by decide +kernel
theorem dX8_canBuy_18 : decode cX8_canBuy 18 = .ok (.iload_n 2, 1) := by decide +kernel
theorem dX8_canBuy_19 : decode cX8_canBuy 19 = .ok (.aload_n 0, 1) := by decide +kernel
theorem dX8_canBuy_20 : decode cX8_canBuy 20 = .ok (.iload_n 1, 1) := by decide +kernel
theorem dX8_canBuy_21 : decode cX8_canBuy 21 = .ok (.iload_n 3, 1) := by decide +kernel
theorem dX8_canBuy_22 : decode cX8_canBuy 22 = .ok (.invokevirtual 182, 3) := by decide +kernel
theorem dX8_canBuy_25 : decode cX8_canBuy 25 = .ok (.invokevirtual 185, 3) := by decide +kernel
theorem dX8_canBuy_28 : decode cX8_canBuy 28 = .ok (.ifCond .eq 53, 3) := by decide +kernel
theorem dX8_canBuy_31 : decode cX8_canBuy 31 = .ok (.iload 4, 2) := by decide +kernel
theorem dX8_canBuy_33 : decode cX8_canBuy 33 = .ok (.aload_n 0, 1) := by decide +kernel
theorem dX8_canBuy_34 : decode cX8_canBuy 34 = .ok (.getfield 17, 3) := by decide +kernel
theorem dX8_canBuy_37 : decode cX8_canBuy 37 = .ok (.iload_n 3, 1) := by decide +kernel
theorem dX8_canBuy_38 : decode cX8_canBuy 38 = .ok (.iaload, 1) := by decide +kernel
