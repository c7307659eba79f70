theorem dX7_damp_26 : decode cX7_damp 26 = .ok (.putfield 123, 3) := by decide +kernel
theorem dX7_damp_29 : decode cX7_damp 29 = .ok (.iload_n 2, 1) := by decide +kernel
theorem dX7_damp_30 : decode cX7_damp 30 = .ok (.ireturn, 1) := by decide +kernel
theorem dX7_wear_0 : decode cX7_wear 0 = .ok (.iload_n 1, 1) := by decide +kernel
theorem dX7_wear_1 : decode cX7_wear 1 = .ok (.ifCond .lt 9, 3) := by decide +kernel
theorem dX7_wear_4 : decode cX7_wear 4 = .ok (.iload_n 1, 1) := by decide +kernel
theorem dX7_wear_5 : decode cX7_wear 5 = .ok (.bipush 9, 2) := by decide +kernel
theorem dX7_wear_7 : decode cX7_wear 7 = .ok (.if_icmp .le 6, 3) := by decide +kernel
theorem dX7_wear_10 : decode cX7_wear 10 = .ok (.ldc 75, 2) := by decide +kernel
theorem dX7_wear_12 : decode cX7_wear 12 = .ok (.ireturn, 1) := by decide +kernel
theorem dX7_wear_13 : decode cX7_wear 13 = .ok (.aload_n 0, 1) := by decide +kernel
theorem dX7_wear_14 : decode cX7_wear 14 = .ok (.getfield 68, 3) := by decide +kernel
theorem dX7_wear_17 : decode cX7_wear 17 = .ok (.getfield 126, 3) := by decide +kernel
theorem dX7_wear_20 : decode cX7_wear 20 = .ok (.istore_n 2, 1) := by decide +kernel
theorem dX7_wear_21 : decode cX7_wear 21 = .ok (.aload_n 0, 1) := by decide +kernel
theorem dX7_wear_22 : decode cX7_wear 22 = .ok (.getfield 68, 3) := by decide +kernel
theorem dX7_wear_25 : decode cX7_wear 25 = .ok (.iload_n 1, 1) := by decide +kernel
theorem dX7_wear_26 : decode cX7_wear 26 = .ok (.putfield 126, 3) := by decide +kernel
theorem dX7_wear_29 : decode cX7_wear 29 = .ok (.iload_n 2, 1) := by decide +kernel
theorem dX7_wear_30 : decode cX7_wear 30 = .ok (.ireturn, 1) := by decide +kernel
set_option maxRecDepth 20000 in
theorem ggX7_stock_X1_isColumn : GoodIn wsX7_stock wsX1_isColumn := goodIn_r _ [8, 9, 41, 42, 43, 44, 45, 46, 47, 48, 49] (by decide +kernel) (by decide +kernel)
set_option maxRecDepth 20000 in
theorem gX7_stock_X1_isColumn : GoodIn wsX7_stock (wsV RX7 155 RX1 yX1_isColumn wsX1_isColumn) := goodIn_app (goodIn_of _ (by decide +kernel)) ggX7_stock_X1_isColumn
set_option maxRecDepth 20000 in
theorem ggX7_stock_X7_replaced : GoodIn wsX7_stock wsX7_replaced := goodIn_r _ [13, 14] (by decide +kernel) (by decide +kernel)
set_option maxRecDepth 20000 in
theorem gX7_stock_X7_replaced : GoodIn wsX7_stock (va_wsS RX7 209 yX7_replaced wsX7_replaced) := goodIn_app (goodIn_of _ (by decide +kernel)) ggX7_stock_X7_replaced
theorem dX7_stock_0 : decode cX7_stock 0 = .ok (.aload_n 0, 1) := by decide +kernel
theorem dX7_stock_1 : decode cX7_stock 1 = .ok (.getfield 64, 3) := by decide +kernel
theorem dX7_stock_4 : decode cX7_stock 4 = .ok (.iload_n 1, 1) := by decide +kernel
theorem dX7_stock_5 : decode cX7_stock 5 = .ok (.invokevirtual 155, 3) := by decide +kernel
theorem dX7_stock_8 : decode cX7_stock 8 = .ok (.ifCond .eq 21, 3) := by decide +kernel
theorem dX7_stock_11 : decode cX7_stock 11 = .ok (.aload_n 0, 1) := by decide +kernel
theorem dX7_stock_12 : decode cX7_stock 12 = .ok (.getfield 68, 3) := by decide +kernel
theorem dX7_stock_15 : decode cX7_stock 15 = .ok (.getfield 167, 3) := by decide +kernel
theorem dX7_stock_18 : decode cX7_stock 18 = .ok (.iload_n 1, 1) := by decide +kernel
theorem dX7_stock_19 : decode cX7_stock 19 = .ok (.iload_n 2, 1) := by decide +kernel
theorem dX7_stock_20 : decode cX7_stock 20 = .ok (.iconst 0, 1) := by decide +kernel
theorem dX7_stock_21 : decode cX7_stock 21 = .ok (.bipush 60, 2) := by decide +kernel
theorem dX7_stock_23 : decode cX7_stock 23 = .ok (.invokestatic 209, 3) := by decide +kernel
theorem dX7_stock_26 : decode cX7_stock 26 = .ok (.goto 5, 3) := by decide +kernel
theorem dX7_stock_29 : decode cX7_stock 29 = .ok (.ldc 137, 2) := by decide +kernel
theorem dX7_stock_31 : decode cX7_stock 31 = .ok (.ireturn, 1) := by decide +kernel
set_option maxRecDepth 20000 in
theorem ggX7_tube_X1_isKind : GoodIn wsX7_tube wsX1_isKind := goodIn_r _ [8, 9, 41, 42, 43, 44, 45, 46, 47, 48, 49] (by decide +kernel) (by decide +kernel)
set_option maxRecDepth 20000 in
theorem gX7_tube_X1_isKind : GoodIn wsX7_tube (wsV RX7 133 RX1 yX1_isKind wsX1_isKind) := goodIn_app (goodIn_of _ (by decide +kernel)) ggX7_tube_X1_isKind
set_option maxRecDepth 20000 in
theorem ggX7_tube_X7_replaced : GoodIn wsX7_tube wsX7_replaced := goodIn_r _ [13, 14] (by decide +kernel) (by decide +kernel)
set_option maxRecDepth 20000 in
theorem gX7_tube_X7_replaced : GoodIn wsX7_tube (va_wsS RX7 209 yX7_replaced wsX7_replaced) := goodIn_app (goodIn_of _ (by decide +kernel)) ggX7_tube_X7_replaced
theorem dX7_tube_0 : decode cX7_tube 0 = .ok (.aload_n 0, 1) := by decide +kernel
theorem dX7_tube_1 : decode cX7_tube 1 = .ok (.getfield 64, 3) := by decide +kernel
theorem dX7_tube_4 : decode cX7_tube 4 = .ok (.iload_n 1, 1) := by decide +kernel
theorem dX7_tube_5 : decode cX7_tube 5 = .ok (.invokevirtual 133, 3) := by decide +kernel
theorem dX7_tube_8 : decode cX7_tube 8 = .ok (.ifCond .eq 21, 3) := by decide +kernel
theorem dX7_tube_11 : decode cX7_tube 11 = .ok (.aload_n 0, 1) := by decide +kernel
theorem dX7_tube_12 : decode cX7_tube 12 = .ok (.getfield 68, 3) := by decide +kernel
theorem dX7_tube_15 : decode cX7_tube 15 = .ok (.getfield 149, 3) := by decide +kernel
theorem dX7_tube_18 : decode cX7_tube 18 = .ok (.iload_n 1, 1) := by decide +kernel
theorem dX7_tube_19 : decode cX7_tube 19 = .ok (.iload_n 2, 1) := by decide +kernel
theorem dX7_tube_20 : decode cX7_tube 20 = .ok (.iconst 0, 1) := by decide +kernel
theorem dX7_tube_21 : decode cX7_tube 21 = .ok (.bipush 60, 2) := by decide +kernel
theorem dX7_tube_23 : decode cX7_tube 23 = .ok (.invokestatic 209, 3) := by decide +kernel
theorem dX7_tube_26 : decode cX7_tube 26 = .ok (.goto 5, 3) := by decide +kernel
theorem dX7_tube_29 : decode cX7_tube 29 = .ok (.ldc 137, 2) := by decide +kernel
theorem dX7_tube_31 : decode cX7_tube 31 = .ok (.ireturn, 1) := by decide +kernel
set_option maxRecDepth 20000 in
theorem ggX7_price_X1_isColumn : GoodIn wsX7_price wsX1_isColumn := goodIn_r _ [8, 9, 41, 42, 43, 44, 45, 46, 47, 48, 49] (by decide +kernel) (by decide +kernel)
set_option maxRecDepth 20000 in
theorem gX7_price_X1_isColumn : GoodIn wsX7_price (wsV RX7 155 RX1 yX1_isColumn wsX1_isColumn) := goodIn_app (goodIn_of _ (by decide +kernel)) ggX7_price_X1_isColumn
set_option maxRecDepth 20000 in
theorem ggX7_price_X7_replaced : GoodIn wsX7_price wsX7_replaced := goodIn_r _ [13, 14] (by decide +kernel) (by decide +kernel)
set_option maxRecDepth 20000 in
theorem gX7_price_X7_replaced : GoodIn wsX7_price (va_wsS RX7 209 yX7_replaced wsX7_replaced) := goodIn_app (goodIn_of _ (by decide +kernel)) ggX7_price_X7_replaced
theorem dX7_price_0 : decode cX7_price 0 = .ok (.aload_n 0, 1) := by decide +kernel
theorem dX7_price_1 : decode cX7_price 1 = .ok (.getfield 64, 3) := by decide +kernel
theorem dX7_price_4 : decode cX7_price 4 = .ok (.iload_n 1, 1) := by decide +kernel
theorem dX7_price_5 : decode cX7_price 5 = .ok (.invokevirtual 155, 3) := by decide +kernel
theorem dX7_price_8 : decode cX7_price 8 = .ok (.ifCond .eq 21, 3) := by decide +kernel
theorem dX7_price_11 : decode cX7_price 11 = .ok (.aload_n 0, 1) := by decide +kernel
theorem dX7_price_12 : decode cX7_price 12 = .ok (.getfield 68, 3) := by decide +kernel
theorem dX7_price_15 : decode cX7_price 15 = .ok (.getfield 158, 3) := by decide +kernel
theorem dX7_price_18 : decode cX7_price 18 = .ok (.iload_n 1, 1) := by decide +kernel
theorem dX7_price_19 : decode cX7_price 19 = .ok (.iload_n 2, 1) := by decide +kernel
theorem dX7_price_20 : decode cX7_price 20 = .ok (.iconst 1, 1) := by decide +kernel
theorem dX7_price_21 : decode cX7_price 21 = .ok (.bipush 99, 2) := by decide +kernel
theorem dX7_price_23 : decode cX7_price 23 = .ok (.invokestatic 209, 3) := by decide +kernel
theorem dX7_price_26 : decode cX7_price 26 = .ok (.goto 5, 3) := by decide +kernel
theorem dX7_price_29 : decode cX7_price 29 = .ok (.ldc 137, 2) := by decide +kernel
theorem dX7_price_31 : decode cX7_price 31 = .ok (.ireturn, 1) := by decide +kernel
theorem dX7_replaced_0 : decode cX7_replaced 0 = .ok (.iload_n 2, 1) := by decide +kernel
theorem dX7_replaced_1 : decode cX7_replaced 1 = .ok (.iload_n 3, 1) := by decide +kernel
theorem dX7_replaced_2 : decode cX7_replaced 2 = .ok (.if_icmp .lt 19, 3) := by decide +kernel
theorem dX7_replaced_5 : decode cX7_replaced 5 = .ok (.iload_n 2, 1) := by decide +kernel
theorem dX7_replaced_6 : decode cX7_replaced 6 = .ok (.iload 4, 2) := by decide +kernel
theorem dX7_replaced_8 : decode cX7_replaced 8 = .ok (.if_icmp .gt 13, 3) := by decide +kernel
theorem dX7_replaced_11 : decode cX7_replaced 11 = .ok (.iload_n 1, 1) := by decide +kernel
theorem dX7_replaced_12 : decode cX7_replaced 12 = .ok (.ifCond .lt 9, 3) := by decide +kernel
theorem dX7_replaced_15 : decode cX7_replaced 15 = .ok (.iload_n 1, 1) := by decide +kernel
theorem dX7_replaced_16 : decode cX7_replaced 16 = .ok (.aload_n 0, 1) := by decide +kernel
theorem dX7_replaced_17 : decode cX7_replaced 17 = .ok (.arraylength, 1) := by decide +kernel
theorem dX7_replaced_18 : decode cX7_replaced 18 = .ok (.if_icmp .lt 6, 3) := by decide +kernel
theorem dX7_replaced_21 : decode cX7_replaced 21 = .ok (.ldc 75, 2) := by decide +kernel
theorem dX7_replaced_23 : decode cX7_replaced 23 = .ok (.ireturn, 1) := by decide +kernel
theorem dX7_replaced_24 : decode cX7_replaced 24 = .ok (.aload_n 0, 1) := by decide +kernel
theorem dX7_replaced_25 : decode cX7_replaced 25 = .ok (.iload_n 1, 1) := by decide +kernel
theorem dX7_replaced_26 : decode cX7_replaced 26 = .ok (.iaload, 1) := by decide +kernel
theorem dX7_replaced_27 : decode cX7_replaced 27 = .ok (.istore 5, 2) := by decide +kernel
theorem dX7_replaced_29 : decode cX7_replaced 29 = .ok (.aload_n 0, 1) := by decide +kernel
theorem dX7_replaced_30 : decode cX7_replaced 30 = .ok (.iload_n 1, 1) := by decide +kernel
theorem dX7_replaced_31 : decode cX7_replaced 31 = .ok (.iload_n 2, 1) := by decide +kernel
theorem dX7_replaced_32 : decode cX7_replaced 32 = .ok (.iastore, 1) := by decide +kernel
theorem dX7_replaced_33 : decode cX7_replaced 33 = .ok (.iload 5, 2) := by decide +kernel
theorem dX7_replaced_35 : decode cX7_replaced 35 = .ok (.ireturn, 1) := by decide +kernel
set_option maxRecDepth 20000 in
theorem ggX7_span_X1_isColumn : GoodIn wsX7_span wsX1_isColumn := goodIn_r _ [9, 10, 37, 38, 39, 40, 41, 42, 43, 44, 45] (by decide +kernel) (by decide +kernel)
set_option maxRecDepth 20000 in
theorem gX7_span_X1_isColumn : GoodIn wsX7_span (wsV RX7 155 RX1 yX1_isColumn wsX1_isColumn) := goodIn_app (goodIn_of _ (by decide +kernel)) ggX7_span_X1_isColumn
theorem dX7_span_0 : decode cX7_span 0 = .ok (.aload_n 0, 1) := by decide +kernel
theorem dX7_span_1 : decode cX7_span 1 = .ok (.getfield 64, 3) := by decide +kernel
theorem dX7_span_4 : decode cX7_span 4 = .ok (.iload_n 1, 1) := by decide +kernel
theorem dX7_span_5 : decode cX7_span 5 = .ok (.invokevirtual 155, 3) := by decide +kernel
theorem dX7_span_8 : decode cX7_span 8 = .ok (.ifCond .ne 6, 3) := by decide +kernel
theorem dX7_span_11 : decode cX7_span 11 = .ok (.ldc 137, 2) := by decide +kernel
theorem dX7_span_13 : decode cX7_span 13 = .ok (.ireturn, 1) := by decide +kernel
theorem dX7_span_14 : decode cX7_span 14 = .ok (.iload_n 2, 1) := by decide +kernel
theorem dX7_span_15 : decode cX7_span 15 = .ok (.iconst 1, 1) := by decide +kernel
theorem dX7_span_16 : decode cX7_span 16 = .ok (.if_icmp .lt 14, 3) := by decide +kernel
theorem dX7_span_19 : decode cX7_span 19 = .ok (.iload_n 3, 1) := by decide +kernel
theorem dX7_span_20 : decode cX7_span 20 = .ok (.bipush 99, 2) := by decide +kernel
theorem dX7_span_22 : decode cX7_span 22 = .ok (.if_icmp .gt 8, 3) := by decide +kernel
theorem dX7_span_25 : decode cX7_span 25 = .ok (.iload_n 3, 1) := by decide +kernel
theorem dX7_span_26 : decode cX7_span 26 = .ok (.iload_n 2, 1) := by decide +kernel
theorem dX7_span_27 : decode cX7_span 27 = .ok (.if_icmp .ge 6, 3) := by decide +kernel
theorem dX7_span_30 : decode cX7_span 30 = .ok (.ldc 75, 2) := by decide +kernel
theorem dX7_span_32 : decode cX7_span 32 = .ok (.ireturn, 1) := by decide +kernel
theorem dX7_span_33 : decode cX7_span 33 = .ok (.bipush 100, 2) := by decide +kernel
theorem dX7_span_35 : decode cX7_span 35 = .ok (.aload_n 0, 1) := by decide +kernel
theorem dX7_span_36 : decode cX7_span 36 = .ok (.getfield 68, 3) := by decide +kernel
theorem dX7_span_39 : decode cX7_span 39 = .ok (.getfield 161, 3) := by decide +kernel
theorem dX7_span_42 : decode cX7_span 42 = .ok (.iload_n 1, 1) := by decide +kernel
theorem dX7_span_43 : decode cX7_span 43 = .ok (.iaload, 1) := by decide +kernel
theorem dX7_span_44 : decode cX7_span 44 = .ok (.imul, 1) := by decide +kernel
theorem dX7_span_45 : decode cX7_span 45 = .ok (.aload_n 0, 1) := by decide +kernel
theorem dX7_span_46 : decode cX7_span 46 = .ok (.getfield 68, 3) := by decide +kernel
theorem dX7_span_49 : decode cX7_span 49 = .ok (.getfield 164, 3) := by decide +kernel
theorem dX7_span_52 : decode cX7_span 52 = .ok (.iload_n 1, 1) := by decide +kernel
theorem dX7_span_53 : decode cX7_span 53 = .ok (.iaload, 1) := by decide +kernel
theorem dX7_span_54 : decode cX7_span 54 = .ok (.iadd, 1) := by decide +kernel
theorem dX7_span_55 : decode cX7_span 55 = .ok (.istore 4, 2) := by decide +kernel
theorem dX7_span_57 : decode cX7_span 57 = .ok (.aload_n 0, 1) := by decide +kernel
theorem dX7_span_58 : decode cX7_span 58 = .ok (.getfield 68, 3) := by decide +kernel
theorem dX7_span_61 : decode cX7_span 61 = .ok (.getfield 161, 3) := by decide +kernel
theorem dX7_span_64 : decode cX7_span 64 = .ok (.iload_n 1, 1) := by decide +kernel
theorem dX7_span_65 : decode cX7_span 65 = .ok (.iload_n 2, 1) := by decide +kernel
theorem dX7_span_66 : decode cX7_span 66 = .ok (.iastore, 1) := by decide +kernel
theorem dX7_span_67 : decode cX7_span 67 = .ok (.aload_n 0, 1) := by decide +kernel
theorem dX7_span_68 : decode cX7_span 68 = .ok (.getfield 68, 3) := by decide +kernel
theorem dX7_span_71 : decode cX7_span 71 = .ok (.getfield 164, 3) := by decide +kernel
theorem dX7_span_74 : decode cX7_span 74 = .ok (.iload_n 1, 1) := by decide +kernel
theorem dX7_span_75 : decode cX7_span 75 = .ok (.iload_n 3, 1) := by decide +kernel
theorem dX7_span_76 : decode cX7_span 76 = .ok (.iastore, 1) := by decide +kernel
theorem dX7_span_77 : decode cX7_span 77 = .ok (.iload 4, 2) := by decide +kernel
theorem dX7_span_79 : decode cX7_span 79 = .ok (.ireturn, 1) := by decide +kernel
set_option maxRecDepth 20000 in
theorem ggX7_wire_X1_isColumn : GoodIn wsX7_wire wsX1_isColumn := goodIn_r _ [8, 9, 36, 37, 38, 39, 40, 41, 42, 43, 44] (by decide +kernel) (by decide +kernel)
set_option maxRecDepth 20000 in
theorem gX7_wire_X1_isColumn : GoodIn wsX7_wire (wsV RX7 155 RX1 yX1_isColumn wsX1_isColumn) := goodIn_app (goodIn_of _ (by decide +kernel)) ggX7_wire_X1_isColumn
theorem dX7_wire_0 : decode cX7_wire 0 = .ok (.aload_n 0, 1) := by decide +kernel
theorem dX7_wire_1 : decode cX7_wire 1 = .ok (.getfield 64, 3) := by decide +kernel
theorem dX7_wire_4 : decode cX7_wire 4 = .ok (.iload_n 1, 1) := by decide +kernel
theorem dX7_wire_5 : decode cX7_wire 5 = .ok (.invokevirtual 155, 3) := by decide +kernel
theorem dX7_wire_8 : decode cX7_wire 8 = .ok (.ifCond .eq 14, 3) := by decide +kernel
theorem dX7_wire_11 : decode cX7_wire 11 = .ok (.aload_n 0, 1) := by decide +kernel
theorem dX7_wire_12 : decode cX7_wire 12 = .ok (.getfield 64, 3) := by decide +kernel
theorem dX7_wire_15 : decode cX7_wire 15 = .ok (.iload_n 2, 1) := by decide +kernel
theorem dX7_wire_16 : decode cX7_wire 16 = .ok (.invokevirtual 155, 3) := by decide +kernel
theorem dX7_wire_19 : decode cX7_wire 19 = .ok (.ifCond .ne 6, 3) := by decide +kernel
theorem dX7_wire_22 : decode cX7_wire 22 = .ok (.ldc 137, 2) := by decide +kernel
theorem dX7_wire_24 : decode cX7_wire 24 = .ok (.ireturn, 1) := by decide +kernel
theorem dX7_wire_25 : decode cX7_wire 25 = .ok (.aload_n 0, 1) := by decide +kernel
theorem dX7_wire_26 : decode cX7_wire 26 = .ok (.getfield 68, 3) := by decide +kernel
theorem dX7_wire_29 : decode cX7_wire 29 = .ok (.getfield 176, 3) := by decide +kernel
theorem dX7_wire_32 : decode cX7_wire 32 = .ok (.iload_n 1, 1) := by decide +kernel
theorem dX7_wire_33 : decode cX7_wire 33 = .ok (.iaload, 1) := by decide +kernel
theorem dX7_wire_34 : decode cX7_wire 34 = .ok (.istore_n 3, 1) := by decide +kernel
theorem dX7_wire_35 : decode cX7_wire 35 = .ok (.aload_n 0, 1) := by decide +kernel
theorem dX7_wire_36 : decode cX7_wire 36 = .ok (.getfield 68, 3) := by decide +kernel
theorem dX7_wire_39 : decode cX7_wire 39 = .ok (.getfield 176, 3) := by decide +kernel
theorem dX7_wire_42 : decode cX7_wire 42 = .ok (.iload_n 1, 1) := by decide +kernel
theorem dX7_wire_43 : decode cX7_wire 43 = .ok (.iload_n 2, 1) := by decide +kernel
theorem dX7_wire_44 : decode cX7_wire 44 = .ok (.iastore, 1) := by decide +kernel
theorem dX7_wire_45 : decode cX7_wire 45 = .ok (.iload_n 3, 1) := by decide +kernel
theorem dX7_wire_46 : decode cX7_wire 46 = .ok (.ireturn, 1) := by decide +kernel
set_option maxRecDepth 20000 in
theorem ggX7_drift_X4_draw : GoodIn wsX7_drift wsX4_draw := goodIn_r _ [9, 10, 11, 12, 13, 14, 87, 88, 89, 90, 91, 92, 93, 94, 95, 96, 97, 98, 99, 100, 101] (by decide +kernel) (by decide +kernel)
set_option maxRecDepth 20000 in
theorem gX7_drift_X4_draw : GoodIn wsX7_drift (wsV RX7 213 RX4 yX4_draw wsX4_draw) := goodIn_app (goodIn_of _ (by decide +kernel)) ggX7_drift_X4_draw
set_option maxRecDepth 20000 in
theorem ggX7_drift_X7_sellByDraws : GoodIn wsX7_drift wsX7_sellByDraws := goodIn_r _ [19, 4, 2, 3, 5, 6, 7, 8, 9, 10, 11, 12, 13, 14, 20, 21, 22, 23, 24, 25, 26, 27, 28, 29, 30, 31, 32, 33, 34, 35, 36, 37, 38, 39, 40, 41, 42, 43, 44, 45, 46, 47, 48, 49, 50, 51, 52, 53, 54, 55, 56, 57, 58, 59, 60, 61, 62, 63, 64, 65, 66, 67, 68, 69, 70, 71, 72, 73, 74, 75, 76, 77, 78, 79, 80, 81, 82, 83, 84, 85, 86, 87, 88, 89, 90, 91, 92, 93, 94, 95, 96, 97, 98, 99, 100, 101] (by decide +kernel) (by decide +kernel)
set_option maxRecDepth 20000 in
theorem gX7_drift_X7_sellByDraws : GoodIn wsX7_drift (wsV RX7 217 RX7 yX7_sellByDraws wsX7_sellByDraws) := goodIn_app (goodIn_of _ (by decide +kernel)) ggX7_drift_X7_sellByDraws
theorem dX7_drift_0 : decode cX7_drift 0 = .ok (.iload_n 1, 1) := by decide +kernel
theorem dX7_drift_1 : decode cX7_drift 1 = .ok (.iconst 1, 1) := by decide +kernel
theorem dX7_drift_2 : decode cX7_drift 2 = .ok (.if_icmp .lt 9, 3) := by decide +kernel
theorem dX7_drift_5 : decode cX7_drift 5 = .ok (.iload_n 1, 1) := by decide +kernel
theorem dX7_drift_6 : decode cX7_drift 6 = .ok (.bipush 99, 2) := by decide +kernel
theorem dX7_drift_8 : decode cX7_drift 8 = .ok (.if_icmp .le 6, 3) := by decide +kernel
theorem dX7_drift_11 : decode cX7_drift 11 = .ok (.ldc 75, 2) := by decide +kernel
theorem dX7_drift_13 : decode cX7_drift 13 = .ok (.ireturn, 1) := by decide +kernel
theorem dX7_drift_14 : decode cX7_drift 14 = .ok (.aload_n 0, 1) := by decide +kernel
theorem dX7_drift_15 : decode cX7_drift 15 = .ok (.getfield 64, 3) := by decide +kernel
theorem dX7_drift_18 : decode cX7_drift 18 = .ok (.getfield 108, 3) := by decide +kernel
theorem dX7_drift_21 : decode cX7_drift 21 = .ok (.ifCond .eq 13, 3) := by decide +kernel
theorem dX7_drift_24 : decode cX7_drift 24 = .ok (.aload_n 0, 1) := by decide +kernel
theorem dX7_drift_25 : decode cX7_drift 25 = .ok (.getfield 64, 3) := by decide +kernel
theorem dX7_drift_28 : decode cX7_drift 28 = .ok (.getfield 104, 3) := by decide +kernel
theorem dX7_drift_31 : decode cX7_drift 31 = .ok (.ifCond .ne 6, 3) := by decide +kernel
theorem dX7_drift_34 : decode cX7_drift 34 = .ok (.ldc 191, 2) := by decide +kernel
theorem dX7_drift_36 : decode cX7_drift 36 = .ok (.ireturn, 1) := by decide +kernel
theorem dX7_drift_37 : decode cX7_drift 37 = .ok (.iconst 0, 1) := by decide +kernel
theorem dX7_drift_38 : decode cX7_drift 38 = .ok (.istore_n 2, 1) := by decide +kernel
theorem dX7_drift_39 : decode cX7_drift 39 = .ok (.iconst 0, 1) := by decide +kernel
theorem dX7_drift_40 : decode cX7_drift 40 = .ok (.istore_n 3, 1) := by decide +kernel
theorem dX7_drift_41 : decode cX7_drift 41 = .ok (.iload_n 3, 1) := by decide +kernel
theorem dX7_drift_42 : decode cX7_drift 42 = .ok (.iload_n 1, 1) := by decide +kernel
theorem dX7_drift_43 : decode cX7_drift 43 = .ok (.if_icmp .ge 54, 3) := by decide +kernel
theorem dX7_drift_46 : decode cX7_drift 46 = .ok (.aload_n 0, 1) := by decide +kernel
theorem dX7_drift_47 : decode cX7_drift 47 = .ok (.getfield 68, 3) := by decide +kernel
theorem dX7_drift_50 : decode cX7_drift 50 = .ok (.aload_n 0, 1) := by decide +kernel
theorem dX7_drift_51 : decode cX7_drift 51 = .ok (.getfield 68, 3) := by decide +kernel
theorem dX7_drift_54 : decode cX7_drift 54 = .ok (.iconst 4, 1) := by decide +kernel
theorem dX7_drift_55 : decode cX7_drift 55 = .ok (.invokevirtual 213, 3) := by decide +kernel
theorem dX7_drift_58 : decode cX7_drift 58 = .ok (.putfield 123, 3) := by decide +kernel
theorem dX7_drift_61 : decode cX7_drift 61 = .ok (.iconst 0, 1) := by decide +kernel
theorem dX7_drift_62 : decode cX7_drift 62 = .ok (.istore 4, 2) := by decide +kernel
theorem dX7_drift_64 : decode cX7_drift 64 = .ok (.iload 4, 2) := by decide +kernel
theorem dX7_drift_66 : decode cX7_drift 66 = .ok (.iconst 4, 1) := by decide +kernel
theorem dX7_drift_67 : decode cX7_drift 67 = .ok (.if_icmp .ge 24, 3) := by decide +kernel
theorem dX7_drift_70 : decode cX7_drift 70 = .ok (.iload_n 2, 1) := by decide +kernel
theorem dX7_drift_71 : decode cX7_drift 71 = .ok (.aload_n 0, 1) := by decide +kernel
theorem dX7_drift_72 : decode cX7_drift 72 = .ok (.invokevirtual 217, 3) := by decide +kernel
theorem dX7_drift_75 : decode cX7_drift 75 = .ok (.ifCond .eq 7, 3) := by decide +kernel
theorem dX7_drift_78 : decode cX7_drift 78 = .ok (.iconst 1, 1) := by decide +kernel
theorem dX7_drift_79 : decode cX7_drift 79 = .ok (.goto 4, 3) := by decide +kernel
theorem dX7_drift_82 : decode cX7_drift 82 = .ok (.iconst 0, 1) := by decide +kernel
theorem dX7_drift_83 : decode cX7_drift 83 = .ok (.iadd, 1) := by decide +kernel
theorem dX7_drift_84 : decode cX7_drift 84 = .ok (.istore_n 2, 1) := by decide +kernel
theorem dX7_drift_85 : decode cX7_drift 85 = .ok (.iinc 4 1, 3) := by decide +kernel
theorem dX7_drift_88 : decode cX7_drift 88 = .ok (.goto (-24), 3) := by decide +kernel
theorem dX7_drift_91 : decode cX7_drift 91 = .ok (.iinc 3 1, 3) := by decide +kernel
theorem dX7_drift_94 : decode cX7_drift 94 = .ok (.goto (-53), 3) := by decide +kernel
theorem dX7_drift_97 : decode cX7_drift 97 = .ok (.iload_n 2, 1) := by decide +kernel
theorem dX7_drift_98 : decode cX7_drift 98 = .ok (.ireturn, 1) := by decide +kernel
set_option maxRecDepth 20000 in
theorem ggX7_sellByDraws_X4_draw : GoodIn wsX7_sellByDraws wsX4_draw := goodIn_r _ [8, 9, 10, 11, 12, 13, 81, 82, 83, 84, 85, 86, 87, 88, 89, 90, 91, 92, 93, 94, 95] (by decide +kernel) (by decide +kernel)
set_option maxRecDepth 20000 in
theorem gX7_sellByDraws_X4_draw : GoodIn wsX7_sellByDraws (wsV RX7 213 RX4 yX4_draw wsX4_draw) := goodIn_app (goodIn_of _ (by decide +kernel)) ggX7_sellByDraws_X4_draw
set_option maxRecDepth 20000 in
theorem ggX7_sellByDraws_X1_sell : GoodIn wsX7_sellByDraws wsX1_sell := goodIn_r _ [18, 19, 20, 21, 22, 23, 24, 25, 26, 27, 17, 28, 29, 30, 31, 32, 7, 33, 34, 35, 36, 37, 38, 39, 40, 41, 42, 43, 44, 45, 46, 47, 48, 49, 50, 51, 52, 53, 54, 55, 56, 57, 58, 59, 60, 81, 82, 83, 84, 85, 86, 87, 88, 89, 90, 91, 92, 93, 94, 95, 72, 73, 74, 75, 76, 77, 78, 79, 80] (by decide +kernel) (by decide +kernel)
set_option maxRecDepth 20000 in
theorem gX7_sellByDraws_X1_sell : GoodIn wsX7_sellByDraws (wsV RX7 187 RX1 yX1_sell wsX1_sell) := goodIn_app (goodIn_of _ (by decide +kernel)) ggX7_sellByDraws_X1_sell
theorem dX7_sellByDraws_0 : decode cX7_sellByDraws 0 = .ok (.aload_n 0, 1) := by decide +kernel
theorem dX7_sellByDraws_1 : decode cX7_sellByDraws 1 = .ok (.getfield 68, 3) := by decide +kernel
theorem dX7_sellByDraws_4 : decode cX7_sellByDraws 4 = .ok (.aload_n 0, 1) := by decide +kernel
theorem dX7_sellByDraws_5 : decode cX7_sellByDraws 5 = .ok (.getfield 64, 3) := by decide +kernel
theorem dX7_sellByDraws_8 : decode cX7_sellByDraws 8 = .ok (.getfield 104, 3) := by decide +kernel
theorem dX7_sellByDraws_11 : decode cX7_sellByDraws 11 = .ok (.invokevirtual 213, 3) := by decide +kernel
theorem dX7_sellByDraws_14 : decode cX7_sellByDraws 14 = .ok (.istore_n 1, 1) := by decide +kernel
theorem dX7_sellByDraws_15 : decode cX7_sellByDraws 15 = .ok (.aload_n 0, 1) := by decide +kernel
theorem dX7_sellByDraws_16 : decode cX7_sellByDraws 16 = .ok (.getfield 68, 3) := by decide +kernel
theorem dX7_sellByDraws_19 : decode cX7_sellByDraws 19 = .ok (.aload_n 0, 1) := by decide +kernel
theorem dX7_sellByDraws_20 : decode cX7_sellByDraws 20 = .ok (.getfield 64, 3) := by decide +kernel
theorem dX7_sellByDraws_23 : decode cX7_sellByDraws 23 = .ok (.getfield 108, 3) := by decide +kernel
theorem dX7_sellByDraws_26 : decode cX7_sellByDraws 26 = .ok (.invokevirtual 213, 3) := by decide +kernel
theorem dX7_sellByDraws_29 : decode cX7_sellByDraws 29 = .ok (.istore_n 2, 1) := by decide +kernel
theorem dX7_sellByDraws_30 : decode cX7_sellByDraws 30 = .ok (.aload_n 0, 1) := by decide +kernel
theorem dX7_sellByDraws_31 : decode cX7_sellByDraws 31 = .ok (.getfield 68, 3) := by decide +kernel
theorem dX7_sellByDraws_34 : decode cX7_sellByDraws 34 = .ok (.bipush 6, 2) := by decide +kernel
theorem dX7_sellByDraws_36 : decode cX7_sellByDraws 36 = .ok (.invokevirtual 213, 3) := by decide +kernel
theorem dX7_sellByDraws_39 : decode cX7_sellByDraws 39 = .ok (.iconst 1, 1) := by decide +kernel
theorem dX7_sellByDraws_40 : decode cX7_sellByDraws 40 = .ok (.iadd, 1) := by decide +kernel
