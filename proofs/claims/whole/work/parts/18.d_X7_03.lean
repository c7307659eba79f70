theorem dX7_sellByDraws_41 : decode cX7_sellByDraws 41 = .ok (.istore_n 3, 1) := by decide +kernel
theorem dX7_sellByDraws_42 : decode cX7_sellByDraws 42 = .ok (.aload_n 0, 1) := by decide +kernel
theorem dX7_sellByDraws_43 : decode cX7_sellByDraws 43 = .ok (.getfield 64, 3) := by decide +kernel
theorem dX7_sellByDraws_46 : decode cX7_sellByDraws 46 = .ok (.aload_n 0, 1) := by decide +kernel
theorem dX7_sellByDraws_47 : decode cX7_sellByDraws 47 = .ok (.getfield 68, 3) := by decide +kernel
theorem dX7_sellByDraws_50 : decode cX7_sellByDraws 50 = .ok (.iload_n 1, 1) := by decide +kernel
theorem dX7_sellByDraws_51 : decode cX7_sellByDraws 51 = .ok (.iload_n 2, 1) := by decide +kernel
theorem dX7_sellByDraws_52 : decode cX7_sellByDraws 52 = .ok (.iload_n 3, 1) := by decide +kernel
theorem dX7_sellByDraws_53 : decode cX7_sellByDraws 53 = .ok (.invokevirtual 187, 3) := by decide +kernel
theorem dX7_sellByDraws_56 : decode cX7_sellByDraws 56 = .ok (.ldc 191, 2) := by decide +kernel
theorem dX7_sellByDraws_58 : decode cX7_sellByDraws 58 = .ok (.if_icmp .eq 7, 3) := by decide +kernel
theorem dX7_sellByDraws_61 : decode cX7_sellByDraws 61 = .ok (.iconst 1, 1) := by decide +kernel
theorem dX7_sellByDraws_62 : decode cX7_sellByDraws 62 = .ok (.goto 4, 3) := by decide +kernel
theorem dX7_sellByDraws_65 : decode cX7_sellByDraws 65 = .ok (.iconst 0, 1) := by decide +kernel
theorem dX7_sellByDraws_66 : decode cX7_sellByDraws 66 = .ok (.ireturn, 1) := by decide +kernel
set_option maxRecDepth 20000 in
theorem ggX7_fewest_X1_isColumn : GoodIn wsX7_fewest wsX1_isColumn := goodIn_r _ [7, 8, 137, 138, 139, 140, 141, 142, 143, 144, 145] (by decide +kernel) (by decide +kernel)
set_option maxRecDepth 20000 in
theorem gX7_fewest_X1_isColumn : GoodIn wsX7_fewest (wsV RX7 155 RX1 yX1_isColumn wsX1_isColumn) := goodIn_app (goodIn_of _ (by decide +kernel)) ggX7_fewest_X1_isColumn
set_option maxRecDepth 20000 in
theorem ggX7_fewest_X7_isKindOrNone : GoodIn wsX7_fewest wsX7_isKindOrNone := goodIn_r _ [13, 1, 14, 15, 16, 6, 17, 18, 126, 127, 128, 129, 130, 131, 132, 133, 134, 135, 136, 137, 138, 139, 140, 141, 142, 143, 144, 145] (by decide +kernel) (by decide +kernel)
set_option maxRecDepth 20000 in
theorem gX7_fewest_X7_isKindOrNone : GoodIn wsX7_fewest (wsV RX7 221 RX7 yX7_isKindOrNone wsX7_isKindOrNone) := goodIn_app (goodIn_of _ (by decide +kernel)) ggX7_fewest_X7_isKindOrNone
set_option maxRecDepth 20000 in
theorem ggX7_fewest_X7_findRow : GoodIn wsX7_fewest wsX7_findRow := goodIn_r _ [22, 23, 1, 24, 25, 26, 27, 28, 29, 30, 31, 32, 33, 34, 35, 36, 37, 38, 12, 39, 40, 41, 42, 43, 44, 45, 46, 47, 48, 49, 50, 51, 52, 53, 54, 55, 56, 57, 58, 59, 60, 61, 62, 63, 64, 65, 66, 6, 67, 68, 69, 70, 71, 72, 73, 74, 75, 76, 77, 78, 79, 80, 81, 82, 83, 84, 85, 86, 87, 88, 89, 90, 91, 92, 93, 94, 95, 96, 97, 98, 99, 100, 101, 102, 103, 104, 105, 106, 18, 107, 108, 109, 110, 111, 112, 113, 114, 115, 116, 117, 126, 127, 128, 129, 130, 131, 132, 133, 134, 135, 136, 137, 138, 139, 140, 141, 142, 143, 144, 145, 146, 147, 148, 149, 150, 151, 152, 153, 154, 155, 156, 157, 158, 159, 160, 161, 162, 163, 164, 165, 166, 167] (by decide +kernel) (by decide +kernel)
set_option maxRecDepth 20000 in
theorem gX7_fewest_X7_findRow : GoodIn wsX7_fewest (wsV RX7 224 RX7 yX7_findRow wsX7_findRow) := goodIn_app (goodIn_of _ (by decide +kernel)) ggX7_fewest_X7_findRow
set_option maxRecDepth 20000 in
theorem ggX7_fewest_X7_coinsOfRow : GoodIn wsX7_fewest wsX7_coinsOfRow := goodIn_r _ [121, 23, 122, 123, 124, 27, 125, 35, 126, 127, 128, 129, 130, 131, 132, 133, 134, 135, 136, 146, 147, 148] (by decide +kernel) (by decide +kernel)
set_option maxRecDepth 20000 in
theorem gX7_fewest_X7_coinsOfRow : GoodIn wsX7_fewest (wsV RX7 227 RX7 yX7_coinsOfRow wsX7_coinsOfRow) := goodIn_app (goodIn_of _ (by decide +kernel)) ggX7_fewest_X7_coinsOfRow
theorem dX7_fewest_0 : decode cX7_fewest 0 = .ok (.aload_n 0, 1) := by decide +kernel
theorem dX7_fewest_1 : decode cX7_fewest 1 = .ok (.getfield 64, 3) := by decide +kernel
theorem dX7_fewest_4 : decode cX7_fewest 4 = .ok (.iload_n 1, 1) := by decide +kernel
theorem dX7_fewest_5 : decode cX7_fewest 5 = .ok (.invokevirtual 155, 3) := by decide +kernel
theorem dX7_fewest_8 : decode cX7_fewest 8 = .ok (.ifCond .eq 11, 3) := by decide +kernel
theorem dX7_fewest_11 : decode cX7_fewest 11 = .ok (.aload_n 0, 1) := by decide +kernel
theorem dX7_fewest_12 : decode cX7_fewest 12 = .ok (.iload_n 2, 1) := by decide +kernel
theorem dX7_fewest_13 : decode cX7_fewest 13 = .ok (.invokevirtual 221, 3) := by decide +kernel
theorem dX7_fewest_16 : decode cX7_fewest 16 = .ok (.ifCond .ne 6, 3) := by decide +kernel
theorem dX7_fewest_19 : decode cX7_fewest 19 = .ok (.ldc 137, 2) := by decide +kernel
theorem dX7_fewest_21 : decode cX7_fewest 21 = .ok (.ireturn, 1) := by decide +kernel
theorem dX7_fewest_22 : decode cX7_fewest 22 = .ok (.aload_n 0, 1) := by decide +kernel
theorem dX7_fewest_23 : decode cX7_fewest 23 = .ok (.iload_n 1, 1) := by decide +kernel
theorem dX7_fewest_24 : decode cX7_fewest 24 = .ok (.iconst 1, 1) := by decide +kernel
theorem dX7_fewest_25 : decode cX7_fewest 25 = .ok (.bipush 8, 2) := by decide +kernel
theorem dX7_fewest_27 : decode cX7_fewest 27 = .ok (.invokevirtual 224, 3) := by decide +kernel
theorem dX7_fewest_30 : decode cX7_fewest 30 = .ok (.ifCond .eq 11, 3) := by decide +kernel
theorem dX7_fewest_33 : decode cX7_fewest 33 = .ok (.aload_n 0, 1) := by decide +kernel
theorem dX7_fewest_34 : decode cX7_fewest 34 = .ok (.iload_n 2, 1) := by decide +kernel
theorem dX7_fewest_35 : decode cX7_fewest 35 = .ok (.invokevirtual 227, 3) := by decide +kernel
theorem dX7_fewest_38 : decode cX7_fewest 38 = .ok (.goto 4, 3) := by decide +kernel
theorem dX7_fewest_41 : decode cX7_fewest 41 = .ok (.iconst (-1), 1) := by decide +kernel
theorem dX7_fewest_42 : decode cX7_fewest 42 = .ok (.ireturn, 1) := by decide +kernel
set_option maxRecDepth 20000 in
theorem ggX7_buyer_X1_isColumn : GoodIn wsX7_buyer wsX1_isColumn := goodIn_r _ [10, 11, 41, 42, 43, 44, 45, 46, 47, 48, 49] (by decide +kernel) (by decide +kernel)
set_option maxRecDepth 20000 in
theorem gX7_buyer_X1_isColumn : GoodIn wsX7_buyer (wsV RX7 155 RX1 yX1_isColumn wsX1_isColumn) := goodIn_app (goodIn_of _ (by decide +kernel)) ggX7_buyer_X1_isColumn
set_option maxRecDepth 20000 in
theorem ggX7_buyer_X1_isKind : GoodIn wsX7_buyer wsX1_isKind := goodIn_r _ [15, 16, 41, 42, 43, 44, 45, 46, 47, 48, 49] (by decide +kernel) (by decide +kernel)
set_option maxRecDepth 20000 in
theorem gX7_buyer_X1_isKind : GoodIn wsX7_buyer (wsV RX7 133 RX1 yX1_isKind wsX1_isKind) := goodIn_app (goodIn_of _ (by decide +kernel)) ggX7_buyer_X1_isKind
set_option maxRecDepth 20000 in
theorem ggX7_buyer_X0_add : GoodIn wsX7_buyer wsX0_add := goodIn_r _ [21, 22, 23, 24, 25, 37, 38, 39, 40] (by decide +kernel) (by decide +kernel)
set_option maxRecDepth 20000 in
theorem gX7_buyer_X0_add : GoodIn wsX7_buyer (wsV RX7 230 RX0 yX0_add wsX0_add) := goodIn_app (goodIn_of _ (by decide +kernel)) ggX7_buyer_X0_add
theorem dX7_buyer_0 : decode cX7_buyer 0 = .ok (.aload_n 0, 1) := by decide +kernel
theorem dX7_buyer_1 : decode cX7_buyer 1 = .ok (.getfield 64, 3) := by decide +kernel
theorem dX7_buyer_4 : decode cX7_buyer 4 = .ok (.iload_n 1, 1) := by decide +kernel
theorem dX7_buyer_5 : decode cX7_buyer 5 = .ok (.invokevirtual 155, 3) := by decide +kernel
theorem dX7_buyer_8 : decode cX7_buyer 8 = .ok (.ifCond .eq 14, 3) := by decide +kernel
theorem dX7_buyer_11 : decode cX7_buyer 11 = .ok (.aload_n 0, 1) := by decide +kernel
theorem dX7_buyer_12 : decode cX7_buyer 12 = .ok (.getfield 64, 3) := by decide +kernel
theorem dX7_buyer_15 : decode cX7_buyer 15 = .ok (.iload_n 2, 1) := by decide +kernel
theorem dX7_buyer_16 : decode cX7_buyer 16 = .ok (.invokevirtual 133, 3) := by decide +kernel
theorem dX7_buyer_19 : decode cX7_buyer 19 = .ok (.ifCond .ne 6, 3) := by decide +kernel
theorem dX7_buyer_22 : decode cX7_buyer 22 = .ok (.ldc 137, 2) := by decide +kernel
theorem dX7_buyer_24 : decode cX7_buyer 24 = .ok (.ireturn, 1) := by decide +kernel
theorem dX7_buyer_25 : decode cX7_buyer 25 = .ok (.iload_n 3, 1) := by decide +kernel
theorem dX7_buyer_26 : decode cX7_buyer 26 = .ok (.iconst 1, 1) := by decide +kernel
theorem dX7_buyer_27 : decode cX7_buyer 27 = .ok (.if_icmp .lt 9, 3) := by decide +kernel
theorem dX7_buyer_30 : decode cX7_buyer 30 = .ok (.iload_n 3, 1) := by decide +kernel
theorem dX7_buyer_31 : decode cX7_buyer 31 = .ok (.bipush 99, 2) := by decide +kernel
theorem dX7_buyer_33 : decode cX7_buyer 33 = .ok (.if_icmp .le 6, 3) := by decide +kernel
theorem dX7_buyer_36 : decode cX7_buyer 36 = .ok (.ldc 75, 2) := by decide +kernel
theorem dX7_buyer_38 : decode cX7_buyer 38 = .ok (.ireturn, 1) := by decide +kernel
theorem dX7_buyer_39 : decode cX7_buyer 39 = .ok (.aload_n 0, 1) := by decide +kernel
theorem dX7_buyer_40 : decode cX7_buyer 40 = .ok (.getfield 38, 3) := by decide +kernel
theorem dX7_buyer_43 : decode cX7_buyer 43 = .ok (.iload_n 1, 1) := by decide +kernel
theorem dX7_buyer_44 : decode cX7_buyer 44 = .ok (.iload_n 2, 1) := by decide +kernel
theorem dX7_buyer_45 : decode cX7_buyer 45 = .ok (.iload_n 3, 1) := by decide +kernel
theorem dX7_buyer_46 : decode cX7_buyer 46 = .ok (.invokevirtual 230, 3) := by decide +kernel
theorem dX7_buyer_49 : decode cX7_buyer 49 = .ok (.ifCond .eq 13, 3) := by decide +kernel
theorem dX7_buyer_52 : decode cX7_buyer 52 = .ok (.aload_n 0, 1) := by decide +kernel
theorem dX7_buyer_53 : decode cX7_buyer 53 = .ok (.getfield 38, 3) := by decide +kernel
theorem dX7_buyer_56 : decode cX7_buyer 56 = .ok (.getfield 100, 3) := by decide +kernel
theorem dX7_buyer_59 : decode cX7_buyer 59 = .ok (.goto 5, 3) := by decide +kernel
theorem dX7_buyer_62 : decode cX7_buyer 62 = .ok (.ldc 79, 2) := by decide +kernel
theorem dX7_buyer_64 : decode cX7_buyer 64 = .ok (.ireturn, 1) := by decide +kernel
set_option maxRecDepth 20000 in
theorem ggX7_fill_X7_isKindOrNone : GoodIn wsX7_fill wsX7_isKindOrNone := goodIn_r _ [6, 7, 8, 9, 10, 11, 12, 13, 121, 122, 123, 124, 125, 126, 127, 128, 129, 130, 131, 132, 133, 134, 135, 136, 137, 138, 139, 140] (by decide +kernel) (by decide +kernel)
set_option maxRecDepth 20000 in
theorem gX7_fill_X7_isKindOrNone : GoodIn wsX7_fill (wsV RX7 221 RX7 yX7_isKindOrNone wsX7_isKindOrNone) := goodIn_app (goodIn_of _ (by decide +kernel)) ggX7_fill_X7_isKindOrNone
set_option maxRecDepth 20000 in
theorem ggX7_fill_X7_findRow : GoodIn wsX7_fill wsX7_findRow := goodIn_r _ [17, 18, 7, 19, 20, 21, 22, 23, 24, 25, 26, 27, 28, 29, 30, 31, 32, 33, 5, 34, 35, 36, 37, 38, 39, 40, 41, 42, 43, 44, 45, 46, 47, 48, 49, 50, 51, 52, 53, 54, 55, 56, 57, 58, 59, 60, 61, 11, 62, 63, 64, 65, 66, 67, 68, 69, 70, 71, 72, 73, 74, 75, 76, 77, 78, 79, 80, 81, 82, 83, 84, 85, 86, 87, 88, 89, 90, 91, 92, 93, 94, 95, 96, 97, 98, 99, 100, 101, 13, 102, 103, 104, 105, 106, 107, 108, 109, 110, 111, 112, 121, 122, 123, 124, 125, 126, 127, 128, 129, 130, 131, 132, 133, 134, 135, 136, 137, 138, 139, 140, 141, 142, 143, 144, 145, 146, 147, 148, 149, 150, 151, 152, 153, 154, 155, 156, 157, 158, 159, 160, 161, 162] (by decide +kernel) (by decide +kernel)
set_option maxRecDepth 20000 in
theorem gX7_fill_X7_findRow : GoodIn wsX7_fill (wsV RX7 224 RX7 yX7_findRow wsX7_findRow) := goodIn_app (goodIn_of _ (by decide +kernel)) ggX7_fill_X7_findRow
set_option maxRecDepth 20000 in
theorem ggX7_fill_X7_coinsOfRow : GoodIn wsX7_fill wsX7_coinsOfRow := goodIn_r _ [116, 18, 117, 118, 119, 22, 120, 30, 121, 122, 123, 124, 125, 126, 127, 128, 129, 130, 131, 141, 142, 143] (by decide +kernel) (by decide +kernel)
set_option maxRecDepth 20000 in
theorem gX7_fill_X7_coinsOfRow : GoodIn wsX7_fill (wsV RX7 227 RX7 yX7_coinsOfRow wsX7_coinsOfRow) := goodIn_app (goodIn_of _ (by decide +kernel)) ggX7_fill_X7_coinsOfRow
theorem dX7_fill_0 : decode cX7_fill 0 = .ok (.aload_n 0, 1) := by decide +kernel
theorem dX7_fill_1 : decode cX7_fill 1 = .ok (.iload_n 1, 1) := by decide +kernel
theorem dX7_fill_2 : decode cX7_fill 2 = .ok (.invokevirtual 221, 3) := by decide +kernel
theorem dX7_fill_5 : decode cX7_fill 5 = .ok (.ifCond .ne 6, 3) := by decide +kernel
theorem dX7_fill_8 : decode cX7_fill 8 = .ok (.ldc 137, 2) := by decide +kernel
theorem dX7_fill_10 : decode cX7_fill 10 = .ok (.ireturn, 1) := by decide +kernel
theorem dX7_fill_11 : decode cX7_fill 11 = .ok (.aload_n 0, 1) := by decide +kernel
theorem dX7_fill_12 : decode cX7_fill 12 = .ok (.iconst (-1), 1) := by decide +kernel
theorem dX7_fill_13 : decode cX7_fill 13 = .ok (.iconst 0, 1) := by decide +kernel
theorem dX7_fill_14 : decode cX7_fill 14 = .ok (.iconst 5, 1) := by decide +kernel
theorem dX7_fill_15 : decode cX7_fill 15 = .ok (.invokevirtual 224, 3) := by decide +kernel
theorem dX7_fill_18 : decode cX7_fill 18 = .ok (.ifCond .eq 11, 3) := by decide +kernel
theorem dX7_fill_21 : decode cX7_fill 21 = .ok (.aload_n 0, 1) := by decide +kernel
theorem dX7_fill_22 : decode cX7_fill 22 = .ok (.iload_n 1, 1) := by decide +kernel
theorem dX7_fill_23 : decode cX7_fill 23 = .ok (.invokevirtual 227, 3) := by decide +kernel
theorem dX7_fill_26 : decode cX7_fill 26 = .ok (.goto 4, 3) := by decide +kernel
theorem dX7_fill_29 : decode cX7_fill 29 = .ok (.iconst (-1), 1) := by decide +kernel
theorem dX7_fill_30 : decode cX7_fill 30 = .ok (.ireturn, 1) := by decide +kernel
set_option maxRecDepth 20000 in
theorem ggX7_isKindOrNone_X1_isKind : GoodIn wsX7_isKindOrNone wsX1_isKind := goodIn_r _ [6, 7, 19, 20, 21, 22, 23, 24, 25, 26, 27] (by decide +kernel) (by decide +kernel)
set_option maxRecDepth 20000 in
theorem gX7_isKindOrNone_X1_isKind : GoodIn wsX7_isKindOrNone (wsV RX7 133 RX1 yX1_isKind wsX1_isKind) := goodIn_app (goodIn_of _ (by decide +kernel)) ggX7_isKindOrNone_X1_isKind
theorem dX7_isKindOrNone_0 : decode cX7_isKindOrNone 0 = .ok (.iload_n 1, 1) := by decide +kernel
theorem dX7_isKindOrNone_1 : decode cX7_isKindOrNone 1 = .ok (.iconst (-1), 1) := by decide +kernel
theorem dX7_isKindOrNone_2 : decode cX7_isKindOrNone 2 = .ok (.if_icmp .eq 14, 3) := by decide +kernel
theorem dX7_isKindOrNone_5 : decode cX7_isKindOrNone 5 = .ok (.aload_n 0, 1) := by decide +kernel
theorem dX7_isKindOrNone_6 : decode cX7_isKindOrNone 6 = .ok (.getfield 64, 3) := by decide +kernel
theorem dX7_isKindOrNone_9 : decode cX7_isKindOrNone 9 = .ok (.iload_n 1, 1) := by decide +kernel
theorem dX7_isKindOrNone_10 : decode cX7_isKindOrNone 10 = .ok (.invokevirtual 133, 3) := by decide +kernel
theorem dX7_isKindOrNone_13 : decode cX7_isKindOrNone 13 = .ok (.ifCond .eq 7, 3) := by decide +kernel
theorem dX7_isKindOrNone_16 : decode cX7_isKindOrNone 16 = .ok (.iconst 1, 1) := by decide +kernel
theorem dX7_isKindOrNone_17 : decode cX7_isKindOrNone 17 = .ok (.goto 4, 3) := by decide +kernel
theorem dX7_isKindOrNone_20 : decode cX7_isKindOrNone 20 = .ok (.iconst 0, 1) := by decide +kernel
theorem dX7_isKindOrNone_21 : decode cX7_isKindOrNone 21 = .ok (.ireturn, 1) := by decide +kernel
set_option maxRecDepth 20000 in
theorem ggX7_coinsOfRow_X3_coinsOf : GoodIn wsX7_coinsOfRow wsX3_coinsOf := goodIn_r _ [6, 7, 19, 20, 21] (by decide +kernel) (by decide +kernel)
set_option maxRecDepth 20000 in
theorem gX7_coinsOfRow_X3_coinsOf : GoodIn wsX7_coinsOfRow (wsV RX7 236 RX3 yX3_coinsOf wsX3_coinsOf) := goodIn_app (goodIn_of _ (by decide +kernel)) ggX7_coinsOfRow_X3_coinsOf
theorem dX7_coinsOfRow_0 : decode cX7_coinsOfRow 0 = .ok (.iload_n 1, 1) := by decide +kernel
theorem dX7_coinsOfRow_1 : decode cX7_coinsOfRow 1 = .ok (.iconst (-1), 1) := by decide +kernel
theorem dX7_coinsOfRow_2 : decode cX7_coinsOfRow 2 = .ok (.if_icmp .ne 13, 3) := by decide +kernel
theorem dX7_coinsOfRow_5 : decode cX7_coinsOfRow 5 = .ok (.aload_n 0, 1) := by decide +kernel
theorem dX7_coinsOfRow_6 : decode cX7_coinsOfRow 6 = .ok (.getfield 57, 3) := by decide +kernel
theorem dX7_coinsOfRow_9 : decode cX7_coinsOfRow 9 = .ok (.getfield 233, 3) := by decide +kernel
theorem dX7_coinsOfRow_12 : decode cX7_coinsOfRow 12 = .ok (.goto 11, 3) := by decide +kernel
theorem dX7_coinsOfRow_15 : decode cX7_coinsOfRow 15 = .ok (.aload_n 0, 1) := by decide +kernel
theorem dX7_coinsOfRow_16 : decode cX7_coinsOfRow 16 = .ok (.getfield 57, 3) := by decide +kernel
theorem dX7_coinsOfRow_19 : decode cX7_coinsOfRow 19 = .ok (.iload_n 1, 1) := by decide +kernel
theorem dX7_coinsOfRow_20 : decode cX7_coinsOfRow 20 = .ok (.invokevirtual 236, 3) := by decide +kernel
theorem dX7_coinsOfRow_23 : decode cX7_coinsOfRow 23 = .ok (.ireturn, 1) := by decide +kernel
set_option maxRecDepth 20000 in
theorem ggX7_findRow_X3_start : GoodIn wsX7_findRow wsX3_start := goodIn_r _ [7, 8, 9, 10, 11, 12, 13, 14, 120, 121, 122] (by decide +kernel) (by decide +kernel)
set_option maxRecDepth 20000 in
theorem gX7_findRow_X3_start : GoodIn wsX7_findRow (wsV RX7 239 RX3 yX3_start wsX3_start) := goodIn_app (goodIn_of _ (by decide +kernel)) ggX7_findRow_X3_start
set_option maxRecDepth 20000 in
theorem ggX7_findRow_X7_rowServesBuyers : GoodIn wsX7_findRow wsX7_rowServesBuyers := goodIn_r _ [19, 20, 21, 2, 1, 22, 9, 10, 11, 23, 24, 25, 26, 27, 28, 29, 30, 31, 32, 33, 34, 35, 36, 37, 38, 39, 40, 41, 42, 43, 44, 45, 46, 47, 48, 49, 50, 51, 52, 18, 53, 54, 55, 56, 57, 58, 59, 60, 61, 62, 63, 64, 65, 66, 67, 68, 69, 70, 71, 72, 73, 74, 75, 76, 77, 78, 79, 80, 81, 82, 83, 84, 85, 86, 87, 88, 89, 100, 101, 102, 103, 104, 105, 106, 107, 108, 109, 110, 111, 112, 113, 114, 115, 116, 117, 118, 119, 123, 124, 125, 126, 127, 128, 129, 130, 131, 132, 133, 134, 135, 136, 137, 120, 121, 122, 138, 139, 140, 141] (by decide +kernel) (by decide +kernel)
set_option maxRecDepth 20000 in
theorem gX7_findRow_X7_rowServesBuyers : GoodIn wsX7_findRow (wsV RX7 242 RX7 yX7_rowServesBuyers wsX7_rowServesBuyers) := goodIn_app (goodIn_of _ (by decide +kernel)) ggX7_findRow_X7_rowServesBuyers
set_option maxRecDepth 20000 in
theorem ggX7_findRow_X7_rowBuysAt : GoodIn wsX7_findRow wsX7_rowBuysAt := goodIn_r _ [93, 21, 2, 1, 20, 94, 67, 68, 47, 69, 70, 71, 72, 73, 74, 95, 85, 86, 87, 88, 89, 49, 60, 9, 10, 11, 100, 101, 102, 103, 104, 105, 106, 107, 108, 109, 110, 123, 124, 125, 126, 127, 128, 129, 130, 131, 132, 133, 134, 135, 136, 137, 111, 112, 113, 114, 115, 116, 117, 118, 119, 120, 121, 122] (by decide +kernel) (by decide +kernel)
set_option maxRecDepth 20000 in
theorem gX7_findRow_X7_rowBuysAt : GoodIn wsX7_findRow (wsV RX7 245 RX7 yX7_rowBuysAt wsX7_rowBuysAt) := goodIn_app (goodIn_of _ (by decide +kernel)) ggX7_findRow_X7_rowBuysAt
set_option maxRecDepth 20000 in
theorem ggX7_findRow_X3_next : GoodIn wsX7_findRow wsX3_next := goodIn_r _ [99, 12, 14, 120, 121, 122] (by decide +kernel) (by decide +kernel)
set_option maxRecDepth 20000 in
theorem gX7_findRow_X3_next : GoodIn wsX7_findRow (wsV RX7 248 RX3 yX3_next wsX3_next) := goodIn_app (goodIn_of _ (by decide +kernel)) ggX7_findRow_X3_next
theorem dX7_findRow_0 : decode cX7_findRow 0 = .ok (.iload_n 2, 1) := by decide +kernel
theorem dX7_findRow_1 : decode cX7_findRow 1 = .ok (.istore 4, 2) := by decide +kernel
theorem dX7_findRow_3 : decode cX7_findRow 3 = .ok (.iload 4, 2) := by decide +kernel
theorem dX7_findRow_5 : decode cX7_findRow 5 = .ok (.iload_n 3, 1) := by decide +kernel
theorem dX7_findRow_6 : decode cX7_findRow 6 = .ok (.if_icmp .gt 83, 3) := by decide +kernel
theorem dX7_findRow_9 : decode cX7_findRow 9 = .ok (.aload_n 0, 1) := by decide +kernel
theorem dX7_findRow_10 : decode cX7_findRow 10 = .ok (.getfield 57, 3) := by decide +kernel
theorem dX7_findRow_13 : decode cX7_findRow 13 = .ok (.aload_n 0, 1) := by decide +kernel
theorem dX7_findRow_14 : decode cX7_findRow 14 = .ok (.getfield 64, 3) := by decide +kernel
theorem dX7_findRow_17 : decode cX7_findRow 17 = .ok (.getfield 108, 3) := by decide +kernel
theorem dX7_findRow_20 : decode cX7_findRow 20 = .ok (.iload 4, 2) := by decide +kernel
theorem dX7_findRow_22 : decode cX7_findRow 22 = .ok (.invokevirtual 239, 3) := by decide +kernel
theorem dX7_findRow_25 : decode cX7_findRow 25 = .ok (.istore 5, 2) := by decide +kernel
theorem dX7_findRow_27 : decode cX7_findRow 27 = .ok (.iconst 0, 1) := by decide +kernel
theorem dX7_findRow_28 : decode cX7_findRow 28 = .ok (.istore 6, 2) := by decide +kernel
theorem dX7_findRow_30 : decode cX7_findRow 30 = .ok (.iload 6, 2) := by decide +kernel
theorem dX7_findRow_32 : decode cX7_findRow 32 = .ok (.sipush 1000, 3) := by decide +kernel
theorem dX7_findRow_35 : decode cX7_findRow 35 = .ok (.if_icmp .ge 48, 3) := by decide +kernel
theorem dX7_findRow_38 : decode cX7_findRow 38 = .ok (.iload 5, 2) := by decide +kernel
theorem dX7_findRow_40 : decode cX7_findRow 40 = .ok (.ifCond .eq 43, 3) := by decide +kernel
theorem dX7_findRow_43 : decode cX7_findRow 43 = .ok (.iload_n 1, 1) := by decide +kernel
theorem dX7_findRow_44 : decode cX7_findRow 44 = .ok (.iconst (-1), 1) := by decide +kernel
theorem dX7_findRow_45 : decode cX7_findRow 45 = .ok (.if_icmp .ne 13, 3) := by decide +kernel
theorem dX7_findRow_48 : decode cX7_findRow 48 = .ok (.aload_n 0, 1) := by decide +kernel
theorem dX7_findRow_49 : decode cX7_findRow 49 = .ok (.invokevirtual 242, 3) := by decide +kernel
theorem dX7_findRow_52 : decode cX7_findRow 52 = .ok (.ifCond .eq 16, 3) := by decide +kernel
theorem dX7_findRow_55 : decode cX7_findRow 55 = .ok (.goto 11, 3) := by decide +kernel
theorem dX7_findRow_58 : decode cX7_findRow 58 = .ok (.aload_n 0, 1) := by decide +kernel
theorem dX7_findRow_59 : decode cX7_findRow 59 = .ok (.iload_n 1, 1) := by decide +kernel
theorem dX7_findRow_60 : decode cX7_findRow 60 = .ok (.invokevirtual 245, 3) := by decide +kernel
theorem dX7_findRow_63 : decode cX7_findRow 63 = .ok (.ifCond .eq 5, 3) := by decide +kernel
theorem dX7_findRow_66 : decode cX7_findRow 66 = .ok (.iconst 1, 1) := by decide +kernel
theorem dX7_findRow_67 : decode cX7_findRow 67 = .ok (.ireturn, 1) := by decide +kernel
theorem dX7_findRow_68 : decode cX7_findRow 68 = .ok (.aload_n 0, 1) := by decide +kernel
theorem dX7_findRow_69 : decode cX7_findRow 69 = .ok (.getfield 57, 3) := by decide +kernel
theorem dX7_findRow_72 : decode cX7_findRow 72 = .ok (.invokevirtual 248, 3) := by decide +kernel
theorem dX7_findRow_75 : decode cX7_findRow 75 = .ok (.istore 5, 2) := by decide +kernel
theorem dX7_findRow_77 : decode cX7_findRow 77 = .ok (.iinc 6 1, 3) := by decide +kernel
theorem dX7_findRow_80 : decode cX7_findRow 80 = .ok (.goto (-50), 3) := by decide +kernel
theorem dX7_findRow_83 : decode cX7_findRow 83 = .ok (.iinc 4 1, 3) := by decide +kernel
theorem dX7_findRow_86 : decode cX7_findRow 86 = .ok (.goto (-83), 3) := by decide +kernel
theorem dX7_findRow_89 : decode cX7_findRow 89 = .ok (.iconst 0, 1) := by decide +kernel
theorem dX7_findRow_90 : decode cX7_findRow 90 = .ok (.ireturn, 1) := by decide +kernel
set_option maxRecDepth 20000 in
theorem ggX7_rowBuysAt_X1_passes : GoodIn wsX7_rowBuysAt wsX1_passes := goodIn_r _ [9, 10, 11, 12, 8, 13, 14, 37, 38, 39, 40, 41, 42, 43, 44, 45, 46, 47, 48, 49, 50, 51, 52, 53, 54, 55, 56, 57, 58, 59, 60] (by decide +kernel) (by decide +kernel)
set_option maxRecDepth 20000 in
theorem gX7_rowBuysAt_X1_passes : GoodIn wsX7_rowBuysAt (wsV RX7 254 RX1 yX1_passes wsX1_passes) := goodIn_app (goodIn_of _ (by decide +kernel)) ggX7_rowBuysAt_X1_passes
set_option maxRecDepth 20000 in
theorem ggX7_rowBuysAt_X1_payBack : GoodIn wsX7_rowBuysAt wsX1_payBack := goodIn_r _ [18, 19, 20, 21, 22, 23, 24, 25, 52, 53, 54, 55, 56, 57, 58, 59, 60] (by decide +kernel) (by decide +kernel)
set_option maxRecDepth 20000 in
theorem gX7_rowBuysAt_X1_payBack : GoodIn wsX7_rowBuysAt (wsV RX7 258 RX1 yX1_payBack wsX1_payBack) := goodIn_app (goodIn_of _ (by decide +kernel)) ggX7_rowBuysAt_X1_payBack
theorem dX7_rowBuysAt_0 : decode cX7_rowBuysAt 0 = .ok (.aload_n 0, 1) := by decide +kernel
theorem dX7_rowBuysAt_1 : decode cX7_rowBuysAt 1 = .ok (.getfield 68, 3) := by decide +kernel
theorem dX7_rowBuysAt_4 : decode cX7_rowBuysAt 4 = .ok (.getfield 158, 3) := by decide +kernel
theorem dX7_rowBuysAt_7 : decode cX7_rowBuysAt 7 = .ok (.iload_n 1, 1) := by decide +kernel
theorem dX7_rowBuysAt_8 : decode cX7_rowBuysAt 8 = .ok (.iaload, 1) := by decide +kernel
theorem dX7_rowBuysAt_9 : decode cX7_rowBuysAt 9 = .ok (.ineg, 1) := by decide +kernel
theorem dX7_rowBuysAt_10 : decode cX7_rowBuysAt 10 = .ok (.istore_n 2, 1) := by decide +kernel
theorem dX7_rowBuysAt_11 : decode cX7_rowBuysAt 11 = .ok (.iconst 0, 1) := by decide +kernel
theorem dX7_rowBuysAt_12 : decode cX7_rowBuysAt 12 = .ok (.istore_n 3, 1) := by decide +kernel
theorem dX7_rowBuysAt_13 : decode cX7_rowBuysAt 13 = .ok (.iload_n 3, 1) := by decide +kernel
theorem dX7_rowBuysAt_14 : decode cX7_rowBuysAt 14 = .ok (.aload_n 0, 1) := by decide +kernel
theorem dX7_rowBuysAt_15 : decode cX7_rowBuysAt 15 = .ok (.getfield 64, 3) := by decide +kernel
theorem dX7_rowBuysAt_18 : decode cX7_rowBuysAt 18 = .ok (.getfield 108, 3) := by decide +kernel
theorem dX7_rowBuysAt_21 : decode cX7_rowBuysAt 21 = .ok (.if_icmp .ge 79, 3) := by decide +kernel
theorem dX7_rowBuysAt_24 : decode cX7_rowBuysAt 24 = .ok (.aload_n 0, 1) := by decide +kernel
theorem dX7_rowBuysAt_25 : decode cX7_rowBuysAt 25 = .ok (.getfield 57, 3) := by decide +kernel
theorem dX7_rowBuysAt_28 : decode cX7_rowBuysAt 28 = .ok (.getfield 251, 3) := by decide +kernel
theorem dX7_rowBuysAt_31 : decode cX7_rowBuysAt 31 = .ok (.iload_n 3, 1) := by decide +kernel
theorem dX7_rowBuysAt_32 : decode cX7_rowBuysAt 32 = .ok (.iaload, 1) := by decide +kernel
theorem dX7_rowBuysAt_33 : decode cX7_rowBuysAt 33 = .ok (.istore 4, 2) := by decide +kernel
theorem dX7_rowBuysAt_35 : decode cX7_rowBuysAt 35 = .ok (.iload 4, 2) := by decide +kernel
theorem dX7_rowBuysAt_37 : decode cX7_rowBuysAt 37 = .ok (.ifCond .le 21, 3) := by decide +kernel
theorem dX7_rowBuysAt_40 : decode cX7_rowBuysAt 40 = .ok (.aload_n 0, 1) := by decide +kernel
theorem dX7_rowBuysAt_41 : decode cX7_rowBuysAt 41 = .ok (.getfield 64, 3) := by decide +kernel
theorem dX7_rowBuysAt_44 : decode cX7_rowBuysAt 44 = .ok (.aload_n 0, 1) := by decide +kernel
theorem dX7_rowBuysAt_45 : decode cX7_rowBuysAt 45 = .ok (.getfield 68, 3) := by decide +kernel
theorem dX7_rowBuysAt_48 : decode cX7_rowBuysAt 48 = .ok (.iload_n 1, 1) := by decide +kernel
theorem dX7_rowBuysAt_49 : decode cX7_rowBuysAt 49 = .ok (.iload_n 3, 1) := by decide +kernel
theorem dX7_rowBuysAt_50 : decode cX7_rowBuysAt 50 = .ok (.invokevirtual 254, 3) := by decide +kernel
theorem dX7_rowBuysAt_53 : decode cX7_rowBuysAt 53 = .ok (.ifCond .ne 5, 3) := by decide +kernel
theorem dX7_rowBuysAt_56 : decode cX7_rowBuysAt 56 = .ok (.iconst 0, 1) := by decide +kernel
theorem dX7_rowBuysAt_57 : decode cX7_rowBuysAt 57 = .ok (.ireturn, 1) := by decide +kernel
theorem dX7_rowBuysAt_58 : decode cX7_rowBuysAt 58 = .ok (.iload_n 2, 1) := by decide +kernel
theorem dX7_rowBuysAt_59 : decode cX7_rowBuysAt 59 = .ok (.iload 4, 2) := by decide +kernel
theorem dX7_rowBuysAt_61 : decode cX7_rowBuysAt 61 = .ok (.aload_n 0, 1) := by decide +kernel
theorem dX7_rowBuysAt_62 : decode cX7_rowBuysAt 62 = .ok (.getfield 64, 3) := by decide +kernel
theorem dX7_rowBuysAt_65 : decode cX7_rowBuysAt 65 = .ok (.getfield 138, 3) := by decide +kernel
theorem dX7_rowBuysAt_68 : decode cX7_rowBuysAt 68 = .ok (.iload_n 3, 1) := by decide +kernel
theorem dX7_rowBuysAt_69 : decode cX7_rowBuysAt 69 = .ok (.iaload, 1) := by decide +kernel
theorem dX7_rowBuysAt_70 : decode cX7_rowBuysAt 70 = .ok (.imul, 1) := by decide +kernel
theorem dX7_rowBuysAt_71 : decode cX7_rowBuysAt 71 = .ok (.iadd, 1) := by decide +kernel
theorem dX7_rowBuysAt_72 : decode cX7_rowBuysAt 72 = .ok (.istore_n 2, 1) := by decide +kernel
theorem dX7_rowBuysAt_73 : decode cX7_rowBuysAt 73 = .ok (.aload_n 0, 1) := by decide +kernel
theorem dX7_rowBuysAt_74 : decode cX7_rowBuysAt 74 = .ok (.getfield 50, 3) := by decide +kernel
theorem dX7_rowBuysAt_77 : decode cX7_rowBuysAt 77 = .ok (.getfield 149, 3) := by decide +kernel
theorem dX7_rowBuysAt_80 : decode cX7_rowBuysAt 80 = .ok (.iload_n 3, 1) := by decide +kernel
theorem dX7_rowBuysAt_81 : decode cX7_rowBuysAt 81 = .ok (.aload_n 0, 1) := by decide +kernel
theorem dX7_rowBuysAt_82 : decode cX7_rowBuysAt 82 = .ok (.getfield 68, 3) := by decide +kernel
theorem dX7_rowBuysAt_85 : decode cX7_rowBuysAt 85 = .ok (.getfield 149, 3) := by decide +kernel
theorem dX7_rowBuysAt_88 : decode cX7_rowBuysAt 88 = .ok (.iload_n 3, 1) := by decide +kernel
theorem dX7_rowBuysAt_89 : decode cX7_rowBuysAt 89 = .ok (.iaload, 1) := by decide +kernel
theorem dX7_rowBuysAt_90 : decode cX7_rowBuysAt 90 = .ok (.iload 4, 2) := by decide +kernel
theorem dX7_rowBuysAt_92 : decode cX7_rowBuysAt 92 = .ok (.iadd, 1) := by decide +kernel
theorem dX7_rowBuysAt_93 : decode cX7_rowBuysAt 93 = .ok (.iastore, 1) := by decide +kernel
theorem dX7_rowBuysAt_94 : decode cX7_rowBuysAt 94 = .ok (.iinc 3 1, 3) := by decide +kernel
theorem dX7_rowBuysAt_97 : decode cX7_rowBuysAt 97 = .ok (.goto (-84), 3) := by decide +kernel
theorem dX7_rowBuysAt_100 : decode cX7_rowBuysAt 100 = .ok (.iload_n 2, 1) := by decide +kernel
theorem dX7_rowBuysAt_101 : decode cX7_rowBuysAt 101 = .ok (.ifCond .lt 26, 3) := by decide +kernel
theorem dX7_rowBuysAt_104 : decode cX7_rowBuysAt 104 = .ok (.aload_n 0, 1) := by decide +kernel
theorem dX7_rowBuysAt_105 : decode cX7_rowBuysAt 105 = .ok (.getfield 64, 3) := by decide +kernel
theorem dX7_rowBuysAt_108 : decode cX7_rowBuysAt 108 = .ok (.aload_n 0, 1) := by decide +kernel
theorem dX7_rowBuysAt_109 : decode cX7_rowBuysAt 109 = .ok (.getfield 50, 3) := by decide +kernel
theorem dX7_rowBuysAt_112 : decode cX7_rowBuysAt 112 = .ok (.getfield 149, 3) := by decide +kernel
theorem dX7_rowBuysAt_115 : decode cX7_rowBuysAt 115 = .ok (.iload_n 2, 1) := by decide +kernel
theorem dX7_rowBuysAt_116 : decode cX7_rowBuysAt 116 = .ok (.invokevirtual 258, 3) := by decide +kernel
theorem dX7_rowBuysAt_119 : decode cX7_rowBuysAt 119 = .ok (.iload_n 2, 1) := by decide +kernel
theorem dX7_rowBuysAt_120 : decode cX7_rowBuysAt 120 = .ok (.if_icmp .ne 7, 3) := by decide +kernel
theorem dX7_rowBuysAt_123 : decode cX7_rowBuysAt 123 = .ok (.iconst 1, 1) := by decide +kernel
