theorem dX8_draw_1 : decode cX8_draw 1 = .ok (.getfield 7, 3) := by decide +kernel
theorem dX8_draw_4 : decode cX8_draw 4 = .ok (.bipush 50, 2) := by decide +kernel
theorem dX8_draw_6 : decode cX8_draw 6 = .ok (.aload_n 0, 1) := by decide +kernel
theorem dX8_draw_7 : decode cX8_draw 7 = .ok (.getfield 7, 3) := by decide +kernel
theorem dX8_draw_10 : decode cX8_draw 10 = .ok (.bipush 50, 2) := by decide +kernel
theorem dX8_draw_12 : decode cX8_draw 12 = .ok (.iaload, 1) := by decide +kernel
theorem dX8_draw_13 : decode cX8_draw 13 = .ok (.i2l, 1) := by decide +kernel
theorem dX8_draw_14 : decode cX8_draw 14 = .ok (.ldc2_w 240, 3) := by decide +kernel
theorem dX8_draw_17 : decode cX8_draw 17 = .ok (.lmul, 1) := by decide +kernel
theorem dX8_draw_18 : decode cX8_draw 18 = .ok (.ldc2_w 242, 3) := by decide +kernel
theorem dX8_draw_21 : decode cX8_draw 21 = .ok (.ladd, 1) := by decide +kernel
theorem dX8_draw_22 : decode cX8_draw 22 = .ok (.ldc2_w 244, 3) := by decide +kernel
theorem dX8_draw_25 : decode cX8_draw 25 = .ok (.lrem, 1) := by decide +kernel
theorem dX8_draw_26 : decode cX8_draw 26 = .ok (.l2i, 1) := by decide +kernel
theorem dX8_draw_27 : decode cX8_draw 27 = .ok (.iastore, 1) := by decide +kernel
theorem dX8_draw_28 : decode cX8_draw 28 = .ok (.aload_n 0, 1) := by decide +kernel
theorem dX8_draw_29 : decode cX8_draw 29 = .ok (.getfield 7, 3) := by decide +kernel
theorem dX8_draw_32 : decode cX8_draw 32 = .ok (.bipush 50, 2) := by decide +kernel
theorem dX8_draw_34 : decode cX8_draw 34 = .ok (.iaload, 1) := by decide +kernel
theorem dX8_draw_35 : decode cX8_draw 35 = .ok (.ldc 246, 2) := by decide +kernel
theorem dX8_draw_37 : decode cX8_draw 37 = .ok (.idiv, 1) := by decide +kernel
theorem dX8_draw_38 : decode cX8_draw 38 = .ok (.iload_n 1, 1) := by decide +kernel
theorem dX8_draw_39 : decode cX8_draw 39 = .ok (.irem, 1) := by decide +kernel
theorem dX8_draw_40 : decode cX8_draw 40 = .ok (.ireturn, 1) := by decide +kernel
set_option maxRecDepth 20000 in
theorem ggX8_drift_X8_in : GoodIn wsX8_drift wsX8_in := goodIn_r _ [10] (by decide +kernel) (by decide +kernel)
set_option maxRecDepth 20000 in
theorem gX8_drift_X8_in : GoodIn wsX8_drift (va_wsS RX8 77 yX8_in wsX8_in) := goodIn_app (goodIn_of _ (by decide +kernel)) ggX8_drift_X8_in
set_option maxRecDepth 20000 in
theorem ggX8_drift_X8_draw : GoodIn wsX8_drift wsX8_draw := goodIn_r _ [14, 6, 15, 16, 17, 18, 57, 58, 59, 60, 61, 62, 63, 64, 65, 66, 67, 68, 69, 70, 71, 72, 73, 74, 75, 76, 77, 78, 79, 80, 81, 82, 83, 84, 85, 86, 87, 88, 89, 90, 91] (by decide +kernel) (by decide +kernel)
set_option maxRecDepth 20000 in
theorem gX8_drift_X8_draw : GoodIn wsX8_drift (wsV RX8 247 RX8 yX8_draw wsX8_draw) := goodIn_app (goodIn_of _ (by decide +kernel)) ggX8_drift_X8_draw
set_option maxRecDepth 20000 in
theorem ggX8_drift_X8_canBuy : GoodIn wsX8_drift wsX8_canBuy := goodIn_r _ [22, 6, 23, 24, 25, 26, 9, 27, 28, 29, 30, 31, 32, 7, 8, 10, 57, 58, 59, 60, 61, 62, 63, 64, 65, 66, 67, 68, 69, 70, 71, 72, 73, 74, 75, 76, 77, 78, 79, 80, 81, 82, 83, 84, 85, 86, 87, 88, 89, 90, 91] (by decide +kernel) (by decide +kernel)
set_option maxRecDepth 20000 in
theorem gX8_drift_X8_canBuy : GoodIn wsX8_drift (wsV RX8 224 RX8 yX8_canBuy wsX8_canBuy) := goodIn_app (goodIn_of _ (by decide +kernel)) ggX8_drift_X8_canBuy
set_option maxRecDepth 20000 in
theorem ggX8_drift_X8_sell : GoodIn wsX8_drift wsX8_sell := goodIn_r _ [36, 6, 23, 37, 38, 39, 9, 40, 41, 42, 43, 44, 45, 46, 47, 48, 49, 3, 50, 51, 52, 53, 54, 55, 56, 57, 58, 59, 60, 61, 62, 63, 64, 65, 66, 67, 68, 69, 70, 71, 72, 73, 74, 75, 76, 77, 78, 79, 80, 81, 82, 83, 84, 85, 86, 87, 88, 89, 90, 91] (by decide +kernel) (by decide +kernel)
set_option maxRecDepth 20000 in
theorem gX8_drift_X8_sell : GoodIn wsX8_drift (wsV RX8 229 RX8 yX8_sell wsX8_sell) := goodIn_app (goodIn_of _ (by decide +kernel)) ggX8_drift_X8_sell
theorem dX8_drift_0 : decode cX8_drift 0 = .ok (.iload_n 1, 1) := by decide +kernel
theorem dX8_drift_1 : decode cX8_drift 1 = .ok (.i2l, 1) := by decide +kernel
theorem dX8_drift_2 : decode cX8_drift 2 = .ok (.lconst 1, 1) := by decide +kernel
theorem dX8_drift_3 : decode cX8_drift 3 = .ok (.ldc2_w 222, 3) := by decide +kernel
theorem dX8_drift_6 : decode cX8_drift 6 = .ok (.invokestatic 77, 3) := by decide +kernel
theorem dX8_drift_9 : decode cX8_drift 9 = .ok (.ifCond .ne 6, 3) := by decide +kernel
theorem dX8_drift_12 : decode cX8_drift 12 = .ok (.ldc 81, 2) := by decide +kernel
theorem dX8_drift_14 : decode cX8_drift 14 = .ok (.ireturn, 1) := by decide +kernel
theorem dX8_drift_15 : decode cX8_drift 15 = .ok (.aload_n 0, 1) := by decide +kernel
theorem dX8_drift_16 : decode cX8_drift 16 = .ok (.getfield 164, 3) := by decide +kernel
theorem dX8_drift_19 : decode cX8_drift 19 = .ok (.ifCond .eq 10, 3) := by decide +kernel
theorem dX8_drift_22 : decode cX8_drift 22 = .ok (.aload_n 0, 1) := by decide +kernel
theorem dX8_drift_23 : decode cX8_drift 23 = .ok (.getfield 167, 3) := by decide +kernel
theorem dX8_drift_26 : decode cX8_drift 26 = .ok (.ifCond .ne 6, 3) := by decide +kernel
theorem dX8_drift_29 : decode cX8_drift 29 = .ok (.ldc 228, 2) := by decide +kernel
theorem dX8_drift_31 : decode cX8_drift 31 = .ok (.ireturn, 1) := by decide +kernel
theorem dX8_drift_32 : decode cX8_drift 32 = .ok (.iconst 0, 1) := by decide +kernel
theorem dX8_drift_33 : decode cX8_drift 33 = .ok (.istore_n 2, 1) := by decide +kernel
theorem dX8_drift_34 : decode cX8_drift 34 = .ok (.iconst 0, 1) := by decide +kernel
theorem dX8_drift_35 : decode cX8_drift 35 = .ok (.istore_n 3, 1) := by decide +kernel
theorem dX8_drift_36 : decode cX8_drift 36 = .ok (.iload_n 3, 1) := by decide +kernel
theorem dX8_drift_37 : decode cX8_drift 37 = .ok (.iload_n 1, 1) := by decide +kernel
theorem dX8_drift_38 : decode cX8_drift 38 = .ok (.if_icmp .ge 96, 3) := by decide +kernel
theorem dX8_drift_41 : decode cX8_drift 41 = .ok (.aload_n 0, 1) := by decide +kernel
theorem dX8_drift_42 : decode cX8_drift 42 = .ok (.getfield 7, 3) := by decide +kernel
theorem dX8_drift_45 : decode cX8_drift 45 = .ok (.bipush 48, 2) := by decide +kernel
theorem dX8_drift_47 : decode cX8_drift 47 = .ok (.aload_n 0, 1) := by decide +kernel
theorem dX8_drift_48 : decode cX8_drift 48 = .ok (.iconst 4, 1) := by decide +kernel
theorem dX8_drift_49 : decode cX8_drift 49 = .ok (.invokevirtual 247, 3) := by decide +kernel
theorem dX8_drift_52 : decode cX8_drift 52 = .ok (.iastore, 1) := by decide +kernel
theorem dX8_drift_53 : decode cX8_drift 53 = .ok (.iconst 0, 1) := by decide +kernel
theorem dX8_drift_54 : decode cX8_drift 54 = .ok (.istore 4, 2) := by decide +kernel
theorem dX8_drift_56 : decode cX8_drift 56 = .ok (.iload 4, 2) := by decide +kernel
theorem dX8_drift_58 : decode cX8_drift 58 = .ok (.iconst 4, 1) := by decide +kernel
theorem dX8_drift_59 : decode cX8_drift 59 = .ok (.if_icmp .ge 69, 3) := by decide +kernel
theorem dX8_drift_62 : decode cX8_drift 62 = .ok (.aload_n 0, 1) := by decide +kernel
theorem dX8_drift_63 : decode cX8_drift 63 = .ok (.aload_n 0, 1) := by decide +kernel
theorem dX8_drift_64 : decode cX8_drift 64 = .ok (.getfield 167, 3) := by decide +kernel
theorem dX8_drift_67 : decode cX8_drift 67 = .ok (.invokevirtual 247, 3) := by decide +kernel
theorem dX8_drift_70 : decode cX8_drift 70 = .ok (.istore 5, 2) := by decide +kernel
theorem dX8_drift_72 : decode cX8_drift 72 = .ok (.aload_n 0, 1) := by decide +kernel
theorem dX8_drift_73 : decode cX8_drift 73 = .ok (.aload_n 0, 1) := by decide +kernel
theorem dX8_drift_74 : decode cX8_drift 74 = .ok (.getfield 164, 3) := by decide +kernel
theorem dX8_drift_77 : decode cX8_drift 77 = .ok (.invokevirtual 247, 3) := by decide +kernel
theorem dX8_drift_80 : decode cX8_drift 80 = .ok (.istore 6, 2) := by decide +kernel
theorem dX8_drift_82 : decode cX8_drift 82 = .ok (.aload_n 0, 1) := by decide +kernel
theorem dX8_drift_83 : decode cX8_drift 83 = .ok (.bipush 6, 2) := by decide +kernel
theorem dX8_drift_85 : decode cX8_drift 85 = .ok (.invokevirtual 247, 3) := by decide +kernel
theorem dX8_drift_88 : decode cX8_drift 88 = .ok (.iconst 1, 1) := by decide +kernel
theorem dX8_drift_89 : decode cX8_drift 89 = .ok (.iadd, 1) := by decide +kernel
theorem dX8_drift_90 : decode cX8_drift 90 = .ok (.istore 7, 2) := by decide +kernel
theorem dX8_drift_92 : decode cX8_drift 92 = .ok (.aload_n 0, 1) := by decide +kernel
theorem dX8_drift_93 : decode cX8_drift 93 = .ok (.iconst 0, 1) := by decide +kernel
theorem dX8_drift_94 : decode cX8_drift 94 = .ok (.iload 5, 2) := by decide +kernel
theorem dX8_drift_96 : decode cX8_drift 96 = .ok (.iload 6, 2) := by decide +kernel
theorem dX8_drift_98 : decode cX8_drift 98 = .ok (.iload 7, 2) := by decide +kernel
theorem dX8_drift_100 : decode cX8_drift 100 = .ok (.invokevirtual 224, 3) := by decide +kernel
theorem dX8_drift_103 : decode cX8_drift 103 = .ok (.ifCond .eq 19, 3) := by decide +kernel
theorem dX8_drift_106 : decode cX8_drift 106 = .ok (.aload_n 0, 1) := by decide +kernel
theorem dX8_drift_107 : decode cX8_drift 107 = .ok (.iconst 0, 1) := by decide +kernel
theorem dX8_drift_108 : decode cX8_drift 108 = .ok (.iload 5, 2) := by decide +kernel
theorem dX8_drift_110 : decode cX8_drift 110 = .ok (.iload 6, 2) := by decide +kernel
theorem dX8_drift_112 : decode cX8_drift 112 = .ok (.iload 7, 2) := by decide +kernel
theorem dX8_drift_114 : decode cX8_drift 114 = .ok (.invokevirtual 229, 3) := by decide +kernel
theorem dX8_drift_117 : decode cX8_drift 117 = .ok (.istore 8, 2) := by decide +kernel
theorem dX8_drift_119 : decode cX8_drift 119 = .ok (.iinc 2 1, 3) := by decide +kernel
theorem dX8_drift_122 : decode cX8_drift 122 = .ok (.iinc 4 1, 3) := by decide +kernel
theorem dX8_drift_125 : decode cX8_drift 125 = .ok (.goto (-69), 3) := by decide +kernel
theorem dX8_drift_128 : decode cX8_drift 128 = .ok (.iinc 3 1, 3) := by decide +kernel
theorem dX8_drift_131 : decode cX8_drift 131 = .ok (.goto (-95), 3) := by decide +kernel
theorem dX8_drift_134 : decode cX8_drift 134 = .ok (.iload_n 2, 1) := by decide +kernel
theorem dX8_drift_135 : decode cX8_drift 135 = .ok (.ireturn, 1) := by decide +kernel
theorem dX8_copy_0 : decode cX8_copy 0 = .ok (.iconst 0, 1) := by decide +kernel
theorem dX8_copy_1 : decode cX8_copy 1 = .ok (.istore_n 3, 1) := by decide +kernel
theorem dX8_copy_2 : decode cX8_copy 2 = .ok (.iload_n 3, 1) := by decide +kernel
theorem dX8_copy_3 : decode cX8_copy 3 = .ok (.bipush 60, 2) := by decide +kernel
theorem dX8_copy_5 : decode cX8_copy 5 = .ok (.if_icmp .ge 25, 3) := by decide +kernel
theorem dX8_copy_8 : decode cX8_copy 8 = .ok (.aload_n 0, 1) := by decide +kernel
theorem dX8_copy_9 : decode cX8_copy 9 = .ok (.getfield 7, 3) := by decide +kernel
theorem dX8_copy_12 : decode cX8_copy 12 = .ok (.iload_n 2, 1) := by decide +kernel
theorem dX8_copy_13 : decode cX8_copy 13 = .ok (.iload_n 3, 1) := by decide +kernel
theorem dX8_copy_14 : decode cX8_copy 14 = .ok (.iadd, 1) := by decide +kernel
theorem dX8_copy_15 : decode cX8_copy 15 = .ok (.aload_n 0, 1) := by decide +kernel
theorem dX8_copy_16 : decode cX8_copy 16 = .ok (.getfield 7, 3) := by decide +kernel
theorem dX8_copy_19 : decode cX8_copy 19 = .ok (.iload_n 1, 1) := by decide +kernel
theorem dX8_copy_20 : decode cX8_copy 20 = .ok (.iload_n 3, 1) := by decide +kernel
theorem dX8_copy_21 : decode cX8_copy 21 = .ok (.iadd, 1) := by decide +kernel
theorem dX8_copy_22 : decode cX8_copy 22 = .ok (.iaload, 1) := by decide +kernel
theorem dX8_copy_23 : decode cX8_copy 23 = .ok (.iastore, 1) := by decide +kernel
theorem dX8_copy_24 : decode cX8_copy 24 = .ok (.iinc 3 1, 3) := by decide +kernel
theorem dX8_copy_27 : decode cX8_copy 27 = .ok (.goto (-25), 3) := by decide +kernel
theorem dX8_copy_30 : decode cX8_copy 30 = .ok (.return_, 1) := by decide +kernel
theorem dX8_layRow_0 : decode cX8_layRow 0 = .ok (.iload_n 1, 1) := by decide +kernel
theorem dX8_layRow_1 : decode cX8_layRow 1 = .ok (.istore_n 2, 1) := by decide +kernel
theorem dX8_layRow_2 : decode cX8_layRow 2 = .ok (.iconst 0, 1) := by decide +kernel
theorem dX8_layRow_3 : decode cX8_layRow 3 = .ok (.istore_n 3, 1) := by decide +kernel
theorem dX8_layRow_4 : decode cX8_layRow 4 = .ok (.aload_n 0, 1) := by decide +kernel
theorem dX8_layRow_5 : decode cX8_layRow 5 = .ok (.getfield 164, 3) := by decide +kernel
theorem dX8_layRow_8 : decode cX8_layRow 8 = .ok (.iconst 1, 1) := by decide +kernel
theorem dX8_layRow_9 : decode cX8_layRow 9 = .ok (.isub, 1) := by decide +kernel
theorem dX8_layRow_10 : decode cX8_layRow 10 = .ok (.istore 4, 2) := by decide +kernel
theorem dX8_layRow_12 : decode cX8_layRow 12 = .ok (.iload 4, 2) := by decide +kernel
theorem dX8_layRow_14 : decode cX8_layRow 14 = .ok (.ifCond .lt 38, 3) := by decide +kernel
theorem dX8_layRow_17 : decode cX8_layRow 17 = .ok (.aload_n 0, 1) := by decide +kernel
theorem dX8_layRow_18 : decode cX8_layRow 18 = .ok (.getfield 54, 3) := by decide +kernel
theorem dX8_layRow_21 : decode cX8_layRow 21 = .ok (.iload 4, 2) := by decide +kernel
theorem dX8_layRow_23 : decode cX8_layRow 23 = .ok (.bipush 8, 2) := by decide +kernel
theorem dX8_layRow_25 : decode cX8_layRow 25 = .ok (.iload_n 2, 1) := by decide +kernel
theorem dX8_layRow_26 : decode cX8_layRow 26 = .ok (.bipush 9, 2) := by decide +kernel
theorem dX8_layRow_28 : decode cX8_layRow 28 = .ok (.irem, 1) := by decide +kernel
theorem dX8_layRow_29 : decode cX8_layRow 29 = .ok (.isub, 1) := by decide +kernel
theorem dX8_layRow_30 : decode cX8_layRow 30 = .ok (.iastore, 1) := by decide +kernel
theorem dX8_layRow_31 : decode cX8_layRow 31 = .ok (.iload_n 2, 1) := by decide +kernel
theorem dX8_layRow_32 : decode cX8_layRow 32 = .ok (.bipush 9, 2) := by decide +kernel
theorem dX8_layRow_34 : decode cX8_layRow 34 = .ok (.idiv, 1) := by decide +kernel
theorem dX8_layRow_35 : decode cX8_layRow 35 = .ok (.istore_n 2, 1) := by decide +kernel
theorem dX8_layRow_36 : decode cX8_layRow 36 = .ok (.iload_n 3, 1) := by decide +kernel
theorem dX8_layRow_37 : decode cX8_layRow 37 = .ok (.aload_n 0, 1) := by decide +kernel
theorem dX8_layRow_38 : decode cX8_layRow 38 = .ok (.getfield 54, 3) := by decide +kernel
theorem dX8_layRow_41 : decode cX8_layRow 41 = .ok (.iload 4, 2) := by decide +kernel
theorem dX8_layRow_43 : decode cX8_layRow 43 = .ok (.iaload, 1) := by decide +kernel
theorem dX8_layRow_44 : decode cX8_layRow 44 = .ok (.iadd, 1) := by decide +kernel
theorem dX8_layRow_45 : decode cX8_layRow 45 = .ok (.istore_n 3, 1) := by decide +kernel
theorem dX8_layRow_46 : decode cX8_layRow 46 = .ok (.iinc 4 (-1), 3) := by decide +kernel
theorem dX8_layRow_49 : decode cX8_layRow 49 = .ok (.goto (-37), 3) := by decide +kernel
theorem dX8_layRow_52 : decode cX8_layRow 52 = .ok (.iload_n 3, 1) := by decide +kernel
theorem dX8_layRow_53 : decode cX8_layRow 53 = .ok (.ireturn, 1) := by decide +kernel
theorem dX8_codes_0 : decode cX8_codes 0 = .ok (.iconst 1, 1) := by decide +kernel
theorem dX8_codes_1 : decode cX8_codes 1 = .ok (.istore_n 1, 1) := by decide +kernel
theorem dX8_codes_2 : decode cX8_codes 2 = .ok (.iconst 0, 1) := by decide +kernel
theorem dX8_codes_3 : decode cX8_codes 3 = .ok (.istore_n 2, 1) := by decide +kernel
theorem dX8_codes_4 : decode cX8_codes 4 = .ok (.iload_n 2, 1) := by decide +kernel
theorem dX8_codes_5 : decode cX8_codes 5 = .ok (.aload_n 0, 1) := by decide +kernel
theorem dX8_codes_6 : decode cX8_codes 6 = .ok (.getfield 164, 3) := by decide +kernel
theorem dX8_codes_9 : decode cX8_codes 9 = .ok (.if_icmp .ge 14, 3) := by decide +kernel
theorem dX8_codes_12 : decode cX8_codes 12 = .ok (.iload_n 1, 1) := by decide +kernel
theorem dX8_codes_13 : decode cX8_codes 13 = .ok (.bipush 9, 2) := by decide +kernel
theorem dX8_codes_15 : decode cX8_codes 15 = .ok (.imul, 1) := by decide +kernel
theorem dX8_codes_16 : decode cX8_codes 16 = .ok (.istore_n 1, 1) := by decide +kernel
theorem dX8_codes_17 : decode cX8_codes 17 = .ok (.iinc 2 1, 3) := by decide +kernel
theorem dX8_codes_20 : decode cX8_codes 20 = .ok (.goto (-16), 3) := by decide +kernel
theorem dX8_codes_23 : decode cX8_codes 23 = .ok (.iload_n 1, 1) := by decide +kernel
theorem dX8_codes_24 : decode cX8_codes 24 = .ok (.ireturn, 1) := by decide +kernel
set_option maxRecDepth 20000 in
theorem ggX8_gets_X8_copy : GoodIn wsX8_gets wsX8_copy := goodIn_r _ [9, 4, 42, 43, 44, 45, 46, 47, 48, 49, 50, 51, 52, 53, 54, 55, 56, 57, 58, 59, 60, 61, 62, 63, 64, 65, 66, 67, 68, 69, 70, 71, 72, 73, 74, 75, 76] (by decide +kernel) (by decide +kernel)
set_option maxRecDepth 20000 in
theorem gX8_gets_X8_copy : GoodIn wsX8_gets (wsV RX8 250 RX8 yX8_copy wsX8_copy) := goodIn_app (goodIn_of _ (by decide +kernel)) ggX8_gets_X8_copy
set_option maxRecDepth 20000 in
theorem ggX8_gets_X8_weightIn : GoodIn wsX8_gets wsX8_weightIn := goodIn_r _ [13, 14, 4, 42, 43, 44, 45, 46, 47, 48, 49, 50, 51, 52, 53, 54, 55, 56, 57, 58, 59, 60, 61, 62, 63, 64, 65, 66, 67, 68, 69, 70, 71, 72, 73, 74, 75, 76] (by decide +kernel) (by decide +kernel)
set_option maxRecDepth 20000 in
theorem gX8_gets_X8_weightIn : GoodIn wsX8_gets (wsV RX8 182 RX8 yX8_weightIn wsX8_weightIn) := goodIn_app (goodIn_of _ (by decide +kernel)) ggX8_gets_X8_weightIn
set_option maxRecDepth 20000 in
theorem ggX8_gets_X8_passes : GoodIn wsX8_gets wsX8_passes := goodIn_r _ [18, 4, 19, 20, 8, 21, 42, 43, 44, 45, 46, 47, 48, 49, 50, 51, 52, 53, 54, 55, 56, 57, 58, 59, 60, 61, 62, 63, 64, 65, 66, 67, 68, 69, 70, 71, 72, 73, 74, 75, 76] (by decide +kernel) (by decide +kernel)
set_option maxRecDepth 20000 in
theorem gX8_gets_X8_passes : GoodIn wsX8_gets (wsV RX8 185 RX8 yX8_passes wsX8_passes) := goodIn_app (goodIn_of _ (by decide +kernel)) ggX8_gets_X8_passes
set_option maxRecDepth 20000 in
theorem ggX8_gets_X8_putIn : GoodIn wsX8_gets wsX8_putIn := goodIn_r _ [25, 4, 26, 27, 8, 28, 29, 30, 42, 43, 44, 45, 46, 47, 48, 49, 50, 51, 52, 53, 54, 55, 56, 57, 58, 59, 60, 61, 62, 63, 64, 65, 66, 67, 68, 69, 70, 71, 72, 73, 74, 75, 76] (by decide +kernel) (by decide +kernel)
set_option maxRecDepth 20000 in
theorem gX8_gets_X8_putIn : GoodIn wsX8_gets (wsV RX8 215 RX8 yX8_putIn wsX8_putIn) := goodIn_app (goodIn_of _ (by decide +kernel)) ggX8_gets_X8_putIn
set_option maxRecDepth 20000 in
theorem ggX8_gets_X8_payBack : GoodIn wsX8_gets wsX8_payBack := goodIn_r _ [34, 1, 3, 4, 35, 36, 37, 8, 38, 39, 40, 41, 42, 43, 44, 45, 46, 47, 48, 49, 50, 51, 52, 53, 54, 55, 56, 57, 58, 59, 60, 61, 62, 63, 64, 65, 66, 67, 68, 69, 70, 71, 72, 73, 74, 75, 76] (by decide +kernel) (by decide +kernel)
set_option maxRecDepth 20000 in
theorem gX8_gets_X8_payBack : GoodIn wsX8_gets (wsV RX8 219 RX8 yX8_payBack wsX8_payBack) := goodIn_app (goodIn_of _ (by decide +kernel)) ggX8_gets_X8_payBack
theorem dX8_gets_0 : decode cX8_gets 0 = .ok (.aload_n 0, 1) := by decide +kernel
theorem dX8_gets_1 : decode cX8_gets 1 = .ok (.iconst 0, 1) := by decide +kernel
theorem dX8_gets_2 : decode cX8_gets 2 = .ok (.bipush 60, 2) := by decide +kernel
theorem dX8_gets_4 : decode cX8_gets 4 = .ok (.invokevirtual 250, 3) := by decide +kernel
theorem dX8_gets_7 : decode cX8_gets 7 = .ok (.iconst 0, 1) := by decide +kernel
theorem dX8_gets_8 : decode cX8_gets 8 = .ok (.istore_n 2, 1) := by decide +kernel
theorem dX8_gets_9 : decode cX8_gets 9 = .ok (.iconst 0, 1) := by decide +kernel
theorem dX8_gets_10 : decode cX8_gets 10 = .ok (.istore_n 3, 1) := by decide +kernel
theorem dX8_gets_11 : decode cX8_gets 11 = .ok (.iload_n 3, 1) := by decide +kernel
theorem dX8_gets_12 : decode cX8_gets 12 = .ok (.aload_n 0, 1) := by decide +kernel
theorem dX8_gets_13 : decode cX8_gets 13 = .ok (.getfield 164, 3) := by decide +kernel
theorem dX8_gets_16 : decode cX8_gets 16 = .ok (.if_icmp .ge 64, 3) := by decide +kernel
theorem dX8_gets_19 : decode cX8_gets 19 = .ok (.aload_n 0, 1) := by decide +kernel
theorem dX8_gets_20 : decode cX8_gets 20 = .ok (.getfield 54, 3) := by decide +kernel
theorem dX8_gets_23 : decode cX8_gets 23 = .ok (.iload_n 3, 1) := by decide +kernel
theorem dX8_gets_24 : decode cX8_gets 24 = .ok (.iaload, 1) := by decide +kernel
theorem dX8_gets_25 : decode cX8_gets 25 = .ok (.ifCond .le 20, 3) := by decide +kernel
theorem dX8_gets_28 : decode cX8_gets 28 = .ok (.aload_n 0, 1) := by decide +kernel
theorem dX8_gets_29 : decode cX8_gets 29 = .ok (.iconst 0, 1) := by decide +kernel
theorem dX8_gets_30 : decode cX8_gets 30 = .ok (.iload_n 1, 1) := by decide +kernel
theorem dX8_gets_31 : decode cX8_gets 31 = .ok (.aload_n 0, 1) := by decide +kernel
theorem dX8_gets_32 : decode cX8_gets 32 = .ok (.iconst 0, 1) := by decide +kernel
theorem dX8_gets_33 : decode cX8_gets 33 = .ok (.iload_n 3, 1) := by decide +kernel
theorem dX8_gets_34 : decode cX8_gets 34 = .ok (.invokevirtual 182, 3) := by decide +kernel
theorem dX8_gets_37 : decode cX8_gets 37 = .ok (.invokevirtual 185, 3) := by decide +kernel
theorem dX8_gets_40 : decode cX8_gets 40 = .ok (.ifCond .ne 5, 3) := by decide +kernel
theorem dX8_gets_43 : decode cX8_gets 43 = .ok (.iconst 0, 1) := by decide +kernel
theorem dX8_gets_44 : decode cX8_gets 44 = .ok (.ireturn, 1) := by decide +kernel
theorem dX8_gets_45 : decode cX8_gets 45 = .ok (.iload_n 2, 1) := by decide +kernel
theorem dX8_gets_46 : decode cX8_gets 46 = .ok (.aload_n 0, 1) := by decide +kernel
theorem dX8_gets_47 : decode cX8_gets 47 = .ok (.getfield 54, 3) := by decide +kernel
theorem dX8_gets_50 : decode cX8_gets 50 = .ok (.iload_n 3, 1) := by decide +kernel
theorem dX8_gets_51 : decode cX8_gets 51 = .ok (.iaload, 1) := by decide +kernel
theorem dX8_gets_52 : decode cX8_gets 52 = .ok (.aload_n 0, 1) := by decide +kernel
theorem dX8_gets_53 : decode cX8_gets 53 = .ok (.getfield 17, 3) := by decide +kernel
theorem dX8_gets_56 : decode cX8_gets 56 = .ok (.iload_n 3, 1) := by decide +kernel
theorem dX8_gets_57 : decode cX8_gets 57 = .ok (.iaload, 1) := by decide +kernel
theorem dX8_gets_58 : decode cX8_gets 58 = .ok (.imul, 1) := by decide +kernel
theorem dX8_gets_59 : decode cX8_gets 59 = .ok (.iadd, 1) := by decide +kernel
theorem dX8_gets_60 : decode cX8_gets 60 = .ok (.istore_n 2, 1) := by decide +kernel
theorem dX8_gets_61 : decode cX8_gets 61 = .ok (.aload_n 0, 1) := by decide +kernel
theorem dX8_gets_62 : decode cX8_gets 62 = .ok (.bipush 60, 2) := by decide +kernel
theorem dX8_gets_64 : decode cX8_gets 64 = .ok (.iload_n 3, 1) := by decide +kernel
theorem dX8_gets_65 : decode cX8_gets 65 = .ok (.aload_n 0, 1) := by decide +kernel
theorem dX8_gets_66 : decode cX8_gets 66 = .ok (.getfield 54, 3) := by decide +kernel
theorem dX8_gets_69 : decode cX8_gets 69 = .ok (.iload_n 3, 1) := by decide +kernel
theorem dX8_gets_70 : decode cX8_gets 70 = .ok (.iaload, 1) := by decide +kernel
theorem dX8_gets_71 : decode cX8_gets 71 = .ok (.invokevirtual 215, 3) := by decide +kernel
theorem dX8_gets_74 : decode cX8_gets 74 = .ok (.iinc 3 1, 3) := by decide +kernel
theorem dX8_gets_77 : decode cX8_gets 77 = .ok (.goto (-66), 3) := by decide +kernel
theorem dX8_gets_80 : decode cX8_gets 80 = .ok (.iload_n 2, 1) := by decide +kernel
theorem dX8_gets_81 : decode cX8_gets 81 = .ok (.aload_n 0, 1) := by decide +kernel
theorem dX8_gets_82 : decode cX8_gets 82 = .ok (.getfield 7, 3) := by decide +kernel
theorem dX8_gets_85 : decode cX8_gets 85 = .ok (.bipush 25, 2) := by decide +kernel
theorem dX8_gets_87 : decode cX8_gets 87 = .ok (.iload_n 1, 1) := by decide +kernel
theorem dX8_gets_88 : decode cX8_gets 88 = .ok (.iadd, 1) := by decide +kernel
theorem dX8_gets_89 : decode cX8_gets 89 = .ok (.iaload, 1) := by decide +kernel
theorem dX8_gets_90 : decode cX8_gets 90 = .ok (.if_icmp .lt 27, 3) := by decide +kernel
theorem dX8_gets_93 : decode cX8_gets 93 = .ok (.aload_n 0, 1) := by decide +kernel
theorem dX8_gets_94 : decode cX8_gets 94 = .ok (.bipush 60, 2) := by decide +kernel
theorem dX8_gets_96 : decode cX8_gets 96 = .ok (.iload_n 2, 1) := by decide +kernel
theorem dX8_gets_97 : decode cX8_gets 97 = .ok (.aload_n 0, 1) := by decide +kernel
theorem dX8_gets_98 : decode cX8_gets 98 = .ok (.getfield 7, 3) := by decide +kernel
theorem dX8_gets_101 : decode cX8_gets 101 = .ok (.bipush 25, 2) := by decide +kernel
theorem dX8_gets_103 : decode cX8_gets 103 = .ok (.iload_n 1, 1) := by decide +kernel
theorem dX8_gets_104 : decode cX8_gets 104 = .ok (.iadd, 1) := by decide +kernel
theorem dX8_gets_105 : decode cX8_gets 105 = .ok (.iaload, 1) := by decide +kernel
theorem dX8_gets_106 : decode cX8_gets 106 = .ok (.isub, 1) := by decide +kernel
theorem dX8_gets_107 : decode cX8_gets 107 = .ok (.invokevirtual 219, 3) := by decide +kernel
theorem dX8_gets_110 : decode cX8_gets 110 = .ok (.ifCond .ne 7, 3) := by decide +kernel
theorem dX8_gets_113 : decode cX8_gets 113 = .ok (.iconst 1, 1) := by decide +kernel
theorem dX8_gets_114 : decode cX8_gets 114 = .ok (.goto 4, 3) := by decide +kernel
theorem dX8_gets_117 : decode cX8_gets 117 = .ok (.iconst 0, 1) := by decide +kernel
theorem dX8_gets_118 : decode cX8_gets 118 = .ok (.ireturn, 1) := by decide +kernel
set_option maxRecDepth 20000 in
theorem ggX8_fewest_X8_isColumn : GoodIn wsX8_fewest wsX8_isColumn := goodIn_r _ [7, 8, 9, 10, 6, 11, 64, 65, 66, 67, 68, 69, 70, 71, 72, 73, 74, 75, 76, 77, 78, 79, 80, 81, 82, 83, 84, 85, 86, 87, 88, 89, 90, 91, 92, 93, 94, 95, 96, 97, 98] (by decide +kernel) (by decide +kernel)
