set_option maxRecDepth 20000 in
theorem ggX2_init_X1_init : GoodIn wsX2_init wsX1_init := goodIn_r _ [15, 16, 2, 3, 17, 18, 19, 20, 21, 22, 23, 36, 37, 38, 39, 40, 41, 42, 43, 44] (by decide +kernel) (by decide +kernel)
set_option maxRecDepth 20000 in
theorem gX2_init_X1_init_n11 : GoodIn wsX2_init (wsX1_init) := ggX2_init_X1_init
set_option maxRecDepth 20000 in
theorem ggX2_init_X4_init : GoodIn wsX2_init wsX4_init := goodIn_r _ [25, 26, 2, 3, 17, 27, 28, 29, 30, 31, 32, 33, 34, 35, 52, 53, 54, 55, 56, 57, 58, 59, 60, 61, 62, 63, 64, 65, 66] (by decide +kernel) (by decide +kernel)
set_option maxRecDepth 20000 in
theorem gX2_init_X4_init_n20 : GoodIn wsX2_init (wsX4_init) := ggX2_init_X4_init
theorem dX2_init_0 : decode cX2_init 0 = .ok (.aload_n 0, 1) := by decide +kernel
theorem dX2_init_1 : decode cX2_init 1 = .ok (.invokespecial 3, 3) := by decide +kernel
theorem dX2_init_4 : decode cX2_init 4 = .ok (.aload_n 0, 1) := by decide +kernel
theorem dX2_init_5 : decode cX2_init 5 = .ok (.new 9, 3) := by decide +kernel
theorem dX2_init_8 : decode cX2_init 8 = .ok (.dup, 1) := by decide +kernel
theorem dX2_init_9 : decode cX2_init 9 = .ok (.invokespecial 11, 3) := by decide +kernel
theorem dX2_init_12 : decode cX2_init 12 = .ok (.putfield 12, 3) := by decide +kernel
theorem dX2_init_15 : decode cX2_init 15 = .ok (.aload_n 0, 1) := by decide +kernel
theorem dX2_init_16 : decode cX2_init 16 = .ok (.new 18, 3) := by decide +kernel
theorem dX2_init_19 : decode cX2_init 19 = .ok (.dup, 1) := by decide +kernel
theorem dX2_init_20 : decode cX2_init 20 = .ok (.invokespecial 20, 3) := by decide +kernel
theorem dX2_init_23 : decode cX2_init 23 = .ok (.putfield 21, 3) := by decide +kernel
theorem dX2_init_26 : decode cX2_init 26 = .ok (.aload_n 0, 1) := by decide +kernel
theorem dX2_init_27 : decode cX2_init 27 = .ok (.iconst (-1), 1) := by decide +kernel
theorem dX2_init_28 : decode cX2_init 28 = .ok (.putfield 25, 3) := by decide +kernel
theorem dX2_init_31 : decode cX2_init 31 = .ok (.aload_n 0, 1) := by decide +kernel
theorem dX2_init_32 : decode cX2_init 32 = .ok (.aload_n 1, 1) := by decide +kernel
theorem dX2_init_33 : decode cX2_init 33 = .ok (.putfield 29, 3) := by decide +kernel
theorem dX2_init_36 : decode cX2_init 36 = .ok (.return_, 1) := by decide +kernel
set_option maxRecDepth 20000 in
theorem ggX2_read_X1_clear : GoodIn wsX2_read wsX1_clear := goodIn_r _ [11, 12, 13, 14, 15, 16, 206, 207, 208, 209, 210, 211, 212, 213, 214] (by decide +kernel) (by decide +kernel)
set_option maxRecDepth 20000 in
theorem gX2_read_X1_clear : GoodIn wsX2_read (wsV RX2 33 RX1 yX1_clear wsX1_clear) := goodIn_app (goodIn_of _ (by decide +kernel)) ggX2_read_X1_clear
set_option maxRecDepth 20000 in
theorem ggX2_read_X4_clear : GoodIn wsX2_read wsX4_clear := goodIn_r _ [21, 22, 23, 24, 25, 26, 27, 28, 29, 30, 31, 20, 32, 33, 34, 35, 36, 37, 38, 39, 40, 41, 42, 43, 44, 215, 216, 217, 218, 219, 220, 221, 222, 223, 224, 225, 226, 227, 228, 229] (by decide +kernel) (by decide +kernel)
set_option maxRecDepth 20000 in
theorem gX2_read_X4_clear : GoodIn wsX2_read (wsV RX2 36 RX4 yX4_clear wsX4_clear) := goodIn_app (goodIn_of _ (by decide +kernel)) ggX2_read_X4_clear
set_option maxRecDepth 20000 in
theorem ggX2_read_X2_skipBlanks : GoodIn wsX2_read wsX2_skipBlanks := goodIn_r _ [49, 3, 6, 50, 51, 52, 53, 54, 55, 56, 197, 198, 199, 200, 201, 202, 203, 204, 205] (by decide +kernel) (by decide +kernel)
set_option maxRecDepth 20000 in
theorem gX2_read_X2_skipBlanks : GoodIn wsX2_read (wsV RX2 43 RX2 yX2_skipBlanks wsX2_skipBlanks) := goodIn_app (goodIn_of _ (by decide +kernel)) ggX2_read_X2_skipBlanks
set_option maxRecDepth 20000 in
theorem ggX2_read_X2_readClause : GoodIn wsX2_read wsX2_readClause := goodIn_r _ [60, 61, 62, 63, 64, 48, 65, 3, 6, 45, 46, 47, 49, 50, 51, 52, 53, 54, 55, 56, 66, 67, 68, 69, 70, 71, 72, 73, 74, 75, 76, 77, 78, 79, 80, 81, 82, 83, 84, 85, 86, 87, 88, 89, 90, 91, 92, 93, 94, 95, 96, 97, 98, 99, 100, 101, 102, 103, 104, 105, 106, 107, 108, 109, 110, 111, 112, 113, 114, 115, 116, 117, 118, 119, 120, 121, 122, 123, 124, 125, 126, 127, 1, 4, 2, 128, 129, 130, 131, 132, 133, 134, 135, 5, 136, 137, 138, 139, 140, 141, 142, 143, 144, 145, 146, 147, 148, 149, 150, 151, 152, 153, 154, 10, 155, 12, 156, 157, 158, 159, 160, 161, 162, 163, 30, 31, 20, 32, 33, 34, 35, 36, 37, 38, 39, 40, 41, 42, 43, 44, 164, 165, 166, 167, 168, 169, 170, 171, 14, 172, 173, 174, 175, 176, 177, 178, 179, 180, 16, 181, 182, 183, 184, 13, 185, 186, 187, 188, 189, 190, 191, 192, 15, 197, 198, 199, 200, 201, 202, 203, 204, 205, 206, 207, 208, 209, 210, 211, 212, 213, 214, 215, 216, 217, 218, 219, 220, 221, 222, 223, 224, 225, 226, 227, 228, 229] (by decide +kernel) (by decide +kernel)
set_option maxRecDepth 20000 in
theorem gX2_read_X2_readClause : GoodIn wsX2_read (wsV RX2 51 RX2 yX2_readClause wsX2_readClause) := goodIn_app (goodIn_of _ (by decide +kernel)) ggX2_read_X2_readClause
set_option maxRecDepth 20000 in
theorem ggX2_read_X1_finish : GoodIn wsX2_read wsX1_finish := goodIn_r _ [196, 13, 16, 206, 207, 208, 209, 210, 211, 212, 213, 214] (by decide +kernel) (by decide +kernel)
set_option maxRecDepth 20000 in
theorem gX2_read_X1_finish : GoodIn wsX2_read (wsV RX2 54 RX1 yX1_finish wsX1_finish) := goodIn_app (goodIn_of _ (by decide +kernel)) ggX2_read_X1_finish
theorem dX2_read_0 : decode cX2_read 0 = .ok (.aload_n 0, 1) := by decide +kernel
theorem dX2_read_1 : decode cX2_read 1 = .ok (.getfield 12, 3) := by decide +kernel
theorem dX2_read_4 : decode cX2_read 4 = .ok (.invokevirtual 33, 3) := by decide +kernel
theorem dX2_read_7 : decode cX2_read 7 = .ok (.aload_n 0, 1) := by decide +kernel
theorem dX2_read_8 : decode cX2_read 8 = .ok (.getfield 21, 3) := by decide +kernel
theorem dX2_read_11 : decode cX2_read 11 = .ok (.invokevirtual 36, 3) := by decide +kernel
theorem dX2_read_14 : decode cX2_read 14 = .ok (.aload_n 0, 1) := by decide +kernel
theorem dX2_read_15 : decode cX2_read 15 = .ok (.iconst 0, 1) := by decide +kernel
theorem dX2_read_16 : decode cX2_read 16 = .ok (.putfield 37, 3) := by decide +kernel
theorem dX2_read_19 : decode cX2_read 19 = .ok (.aload_n 0, 1) := by decide +kernel
theorem dX2_read_20 : decode cX2_read 20 = .ok (.iconst 0, 1) := by decide +kernel
theorem dX2_read_21 : decode cX2_read 21 = .ok (.putfield 40, 3) := by decide +kernel
theorem dX2_read_24 : decode cX2_read 24 = .ok (.aload_n 0, 1) := by decide +kernel
theorem dX2_read_25 : decode cX2_read 25 = .ok (.iconst (-1), 1) := by decide +kernel
theorem dX2_read_26 : decode cX2_read 26 = .ok (.putfield 25, 3) := by decide +kernel
theorem dX2_read_29 : decode cX2_read 29 = .ok (.aload_n 0, 1) := by decide +kernel
theorem dX2_read_30 : decode cX2_read 30 = .ok (.invokevirtual 43, 3) := by decide +kernel
theorem dX2_read_33 : decode cX2_read 33 = .ok (.iconst 0, 1) := by decide +kernel
theorem dX2_read_34 : decode cX2_read 34 = .ok (.istore_n 1, 1) := by decide +kernel
theorem dX2_read_35 : decode cX2_read 35 = .ok (.iload_n 1, 1) := by decide +kernel
theorem dX2_read_36 : decode cX2_read 36 = .ok (.sipush 400, 3) := by decide +kernel
theorem dX2_read_39 : decode cX2_read 39 = .ok (.if_icmp .ge 38, 3) := by decide +kernel
theorem dX2_read_42 : decode cX2_read 42 = .ok (.aload_n 0, 1) := by decide +kernel
theorem dX2_read_43 : decode cX2_read 43 = .ok (.getfield 37, 3) := by decide +kernel
theorem dX2_read_46 : decode cX2_read 46 = .ok (.aload_n 0, 1) := by decide +kernel
theorem dX2_read_47 : decode cX2_read 47 = .ok (.getfield 29, 3) := by decide +kernel
theorem dX2_read_50 : decode cX2_read 50 = .ok (.getfield 46, 3) := by decide +kernel
theorem dX2_read_53 : decode cX2_read 53 = .ok (.if_icmp .ge 24, 3) := by decide +kernel
theorem dX2_read_56 : decode cX2_read 56 = .ok (.aload_n 0, 1) := by decide +kernel
theorem dX2_read_57 : decode cX2_read 57 = .ok (.getfield 40, 3) := by decide +kernel
theorem dX2_read_60 : decode cX2_read 60 = .ok (.ifCond .ne 17, 3) := by decide +kernel
theorem dX2_read_63 : decode cX2_read 63 = .ok (.aload_n 0, 1) := by decide +kernel
theorem dX2_read_64 : decode cX2_read 64 = .ok (.invokevirtual 51, 3) := by decide +kernel
theorem dX2_read_67 : decode cX2_read 67 = .ok (.aload_n 0, 1) := by decide +kernel
theorem dX2_read_68 : decode cX2_read 68 = .ok (.invokevirtual 43, 3) := by decide +kernel
theorem dX2_read_71 : decode cX2_read 71 = .ok (.iinc 1 1, 3) := by decide +kernel
theorem dX2_read_74 : decode cX2_read 74 = .ok (.goto (-39), 3) := by decide +kernel
theorem dX2_read_77 : decode cX2_read 77 = .ok (.aload_n 0, 1) := by decide +kernel
theorem dX2_read_78 : decode cX2_read 78 = .ok (.getfield 12, 3) := by decide +kernel
theorem dX2_read_81 : decode cX2_read 81 = .ok (.invokevirtual 54, 3) := by decide +kernel
theorem dX2_read_84 : decode cX2_read 84 = .ok (.return_, 1) := by decide +kernel
set_option maxRecDepth 20000 in
theorem ggX2_readClause_X2_takeWord : GoodIn wsX2_readClause wsX2_takeWord := goodIn_r _ [6, 7, 1, 8, 9, 10, 11, 5, 12, 13, 14, 15, 16, 17, 18, 19, 20, 21, 22, 23, 24, 173, 174, 175, 176, 177, 178, 179, 180, 181] (by decide +kernel) (by decide +kernel)
set_option maxRecDepth 20000 in
theorem gX2_readClause_X2_takeWord : GoodIn wsX2_readClause (wsV RX2 57 RX2 yX2_takeWord wsX2_takeWord) := goodIn_app (goodIn_of _ (by decide +kernel)) ggX2_readClause_X2_takeWord
set_option maxRecDepth 20000 in
theorem ggX2_readClause_X2_wordIs : GoodIn wsX2_readClause wsX2_wordIs := goodIn_r _ [28, 7, 1, 8, 29, 30, 31, 32, 33, 34, 35, 36, 37, 38, 39, 40, 13, 14, 15, 16, 17, 18, 19, 41, 42, 43, 44, 45, 46, 47, 48, 49, 50, 51, 52, 53, 54, 55, 56, 57, 58, 59, 60, 61, 62, 63, 64, 65, 66, 67, 68, 69, 70, 71, 72, 73, 74, 75, 76, 77, 173, 174, 175, 176, 177, 178, 179, 180, 181] (by decide +kernel) (by decide +kernel)
set_option maxRecDepth 20000 in
theorem gX2_readClause_X2_wordIs : GoodIn wsX2_readClause (wsV RX2 62 RX2 yX2_wordIs wsX2_wordIs) := goodIn_app (goodIn_of _ (by decide +kernel)) ggX2_readClause_X2_wordIs
set_option maxRecDepth 20000 in
theorem ggX2_readClause_X2_readCoin : GoodIn wsX2_readClause wsX2_readCoin := goodIn_r _ [81, 82, 83, 84, 85, 86, 87, 5, 88, 1, 89, 90, 91, 92, 93, 94, 95, 96, 97, 7, 8, 98, 99, 100, 101, 9, 10, 11, 12, 13, 14, 15, 16, 17, 18, 19, 102, 103, 104, 105, 24, 106, 107, 108, 109, 110, 111, 112, 113, 114, 115, 116, 117, 118, 173, 174, 175, 176, 177, 178, 179, 182, 183, 184, 185, 186, 187, 188, 189, 190, 191, 192, 193, 194, 195, 196, 197, 198, 199, 200, 201, 202, 203, 204, 205, 180, 181] (by decide +kernel) (by decide +kernel)
set_option maxRecDepth 20000 in
theorem gX2_readClause_X2_readCoin : GoodIn wsX2_readClause (wsV RX2 66 RX2 yX2_readCoin wsX2_readCoin) := goodIn_app (goodIn_of _ (by decide +kernel)) ggX2_readClause_X2_readCoin
set_option maxRecDepth 20000 in
theorem ggX2_readClause_X2_readColumn : GoodIn wsX2_readClause wsX2_readColumn := goodIn_r _ [122, 82, 1, 83, 84, 85, 86, 87, 5, 88, 89, 90, 91, 92, 93, 94, 95, 96, 97, 7, 8, 98, 99, 100, 101, 9, 10, 11, 12, 13, 14, 15, 16, 17, 18, 19, 102, 103, 104, 105, 24, 106, 107, 108, 109, 123, 124, 125, 126, 127, 128, 129, 130, 131, 132, 133, 134, 135, 136, 137, 138, 139, 173, 174, 175, 176, 177, 178, 179, 182, 183, 184, 185, 186, 187, 188, 189, 190, 180, 181, 191, 192, 193, 194, 195, 196, 197, 198, 199, 200, 201, 202, 203, 204, 205] (by decide +kernel) (by decide +kernel)
set_option maxRecDepth 20000 in
theorem gX2_readClause_X2_readColumn : GoodIn wsX2_readClause (wsV RX2 71 RX2 yX2_readColumn wsX2_readColumn) := goodIn_app (goodIn_of _ (by decide +kernel)) ggX2_readClause_X2_readColumn
set_option maxRecDepth 20000 in
theorem ggX2_readClause_X2_readSlug : GoodIn wsX2_readClause wsX2_readSlug := goodIn_r _ [143, 82, 83, 85, 86, 87, 5, 88, 1, 89, 90, 91, 92, 93, 94, 95, 96, 97, 7, 8, 98, 99, 100, 101, 9, 10, 11, 12, 13, 14, 15, 16, 17, 18, 19, 102, 103, 104, 105, 24, 106, 107, 108, 109, 144, 145, 146, 113, 147, 148, 149, 173, 174, 175, 176, 177, 178, 179, 182, 183, 184, 185, 186, 187, 188, 189, 190, 180, 181] (by decide +kernel) (by decide +kernel)
set_option maxRecDepth 20000 in
theorem gX2_readClause_X2_readSlug : GoodIn wsX2_readClause (wsV RX2 76 RX2 yX2_readSlug wsX2_readSlug) := goodIn_app (goodIn_of _ (by decide +kernel)) ggX2_readClause_X2_readSlug
set_option maxRecDepth 20000 in
theorem ggX2_readClause_X2_readKick : GoodIn wsX2_readClause wsX2_readKick := goodIn_r _ [153, 82, 1, 7, 83, 94, 95, 96, 5, 97, 8, 98, 99, 100, 101, 9, 10, 11, 12, 13, 14, 15, 16, 17, 18, 19, 102, 103, 104, 105, 24, 89, 90, 91, 92, 93, 154, 155, 156, 113, 157, 158, 159, 160, 161, 162, 163, 164, 165, 166, 167, 2, 3, 4, 6, 20, 21, 22, 23, 106, 107, 108, 109, 168, 169, 170, 171, 172, 173, 174, 175, 176, 177, 178, 179, 182, 183, 184, 185, 186, 187, 188, 189, 190, 180, 181] (by decide +kernel) (by decide +kernel)
set_option maxRecDepth 20000 in
theorem gX2_readClause_X2_readKick : GoodIn wsX2_readClause (wsV RX2 81 RX2 yX2_readKick wsX2_readKick) := goodIn_app (goodIn_of _ (by decide +kernel)) ggX2_readClause_X2_readKick
set_option maxRecDepth 20000 in
theorem ggX2_readClause_X2_fail : GoodIn wsX2_readClause wsX2_fail := goodIn_r _ [92, 83, 93, 173, 174, 175, 176, 177, 178, 179] (by decide +kernel) (by decide +kernel)
set_option maxRecDepth 20000 in
theorem gX2_readClause_X2_fail : GoodIn wsX2_readClause (wsV RX2 87 RX2 yX2_fail wsX2_fail) := goodIn_app (goodIn_of _ (by decide +kernel)) ggX2_readClause_X2_fail
theorem dX2_readClause_0 : decode cX2_readClause 0 = .ok (.aload_n 0, 1) := by decide +kernel
theorem dX2_readClause_1 : decode cX2_readClause 1 = .ok (.invokevirtual 57, 3) := by decide +kernel
theorem dX2_readClause_4 : decode cX2_readClause 4 = .ok (.aload_n 0, 1) := by decide +kernel
theorem dX2_readClause_5 : decode cX2_readClause 5 = .ok (.ldc 60, 2) := by decide +kernel
theorem dX2_readClause_7 : decode cX2_readClause 7 = .ok (.invokevirtual 62, 3) := by decide +kernel
theorem dX2_readClause_10 : decode cX2_readClause 10 = .ok (.ifCond .eq 10, 3) := by decide +kernel
theorem dX2_readClause_13 : decode cX2_readClause 13 = .ok (.aload_n 0, 1) := by decide +kernel
theorem dX2_readClause_14 : decode cX2_readClause 14 = .ok (.invokevirtual 66, 3) := by decide +kernel
theorem dX2_readClause_17 : decode cX2_readClause 17 = .ok (.goto 60, 3) := by decide +kernel
theorem dX2_readClause_20 : decode cX2_readClause 20 = .ok (.aload_n 0, 1) := by decide +kernel
theorem dX2_readClause_21 : decode cX2_readClause 21 = .ok (.ldc 69, 2) := by decide +kernel
theorem dX2_readClause_23 : decode cX2_readClause 23 = .ok (.invokevirtual 62, 3) := by decide +kernel
theorem dX2_readClause_26 : decode cX2_readClause 26 = .ok (.ifCond .eq 10, 3) := by decide +kernel
theorem dX2_readClause_29 : decode cX2_readClause 29 = .ok (.aload_n 0, 1) := by decide +kernel
theorem dX2_readClause_30 : decode cX2_readClause 30 = .ok (.invokevirtual 71, 3) := by decide +kernel
theorem dX2_readClause_33 : decode cX2_readClause 33 = .ok (.goto 44, 3) := by decide +kernel
theorem dX2_readClause_36 : decode cX2_readClause 36 = .ok (.aload_n 0, 1) := by decide +kernel
theorem dX2_readClause_37 : decode cX2_readClause 37 = .ok (.ldc 74, 2) := by decide +kernel
theorem dX2_readClause_39 : decode cX2_readClause 39 = .ok (.invokevirtual 62, 3) := by decide +kernel
theorem dX2_readClause_42 : decode cX2_readClause 42 = .ok (.ifCond .eq 10, 3) := by decide +kernel
theorem dX2_readClause_45 : decode cX2_readClause 45 = .ok (.aload_n 0, 1) := by decide +kernel
theorem dX2_readClause_46 : decode cX2_readClause 46 = .ok (.invokevirtual 76, 3) := by decide +kernel
theorem dX2_readClause_49 : decode cX2_readClause 49 = .ok (.goto 28, 3) := by decide +kernel
theorem dX2_readClause_52 : decode cX2_readClause 52 = .ok (.aload_n 0, 1) := by decide +kernel
theorem dX2_readClause_53 : decode cX2_readClause 53 = .ok (.ldc 79, 2) := by decide +kernel
theorem dX2_readClause_55 : decode cX2_readClause 55 = .ok (.invokevirtual 62, 3) := by decide +kernel
theorem dX2_readClause_58 : decode cX2_readClause 58 = .ok (.ifCond .eq 10, 3) := by decide +kernel
theorem dX2_readClause_61 : decode cX2_readClause 61 = .ok (.aload_n 0, 1) := by decide +kernel
theorem dX2_readClause_62 : decode cX2_readClause 62 = .ok (.invokevirtual 81, 3) := by decide +kernel
theorem dX2_readClause_65 : decode cX2_readClause 65 = .ok (.goto 12, 3) := by decide +kernel
theorem dX2_readClause_68 : decode cX2_readClause 68 = .ok (.aload_n 0, 1) := by decide +kernel
theorem dX2_readClause_69 : decode cX2_readClause 69 = .ok (.iconst 1, 1) := by decide +kernel
theorem dX2_readClause_70 : decode cX2_readClause 70 = .ok (.aload_n 0, 1) := by decide +kernel
theorem dX2_readClause_71 : decode cX2_readClause 71 = .ok (.getfield 84, 3) := by decide +kernel
theorem dX2_readClause_74 : decode cX2_readClause 74 = .ok (.invokevirtual 87, 3) := by decide +kernel
theorem dX2_readClause_77 : decode cX2_readClause 77 = .ok (.return_, 1) := by decide +kernel
set_option maxRecDepth 20000 in
theorem ggX2_readCoin_X2_refuseSixth : GoodIn wsX2_readCoin wsX2_refuseSixth := goodIn_r _ [8, 9, 10, 11, 12, 7, 13, 2, 14, 54, 55, 56, 57, 58, 59, 60] (by decide +kernel) (by decide +kernel)
set_option maxRecDepth 20000 in
theorem gX2_readCoin_X2_refuseSixth : GoodIn wsX2_readCoin (wsV RX2 94 RX2 yX2_refuseSixth wsX2_refuseSixth) := goodIn_app (goodIn_of _ (by decide +kernel)) ggX2_readCoin_X2_refuseSixth
set_option maxRecDepth 20000 in
theorem ggX2_readCoin_X2_takeNumber : GoodIn wsX2_readCoin wsX2_takeNumber := goodIn_r _ [18, 2, 19, 9, 20, 21, 22, 23, 24, 25, 26, 27, 7, 28, 29, 30, 31, 32, 33, 34, 35, 36, 37, 38, 39, 40, 10, 11, 12, 13, 14, 54, 55, 56, 57, 58, 59, 60, 85, 86] (by decide +kernel) (by decide +kernel)
set_option maxRecDepth 20000 in
theorem gX2_readCoin_X2_takeNumber : GoodIn wsX2_readCoin (wsV RX2 97 RX2 yX2_takeNumber wsX2_takeNumber) := goodIn_app (goodIn_of _ (by decide +kernel)) ggX2_readCoin_X2_takeNumber
set_option maxRecDepth 20000 in
theorem ggX2_readCoin_X2_takeEnd : GoodIn wsX2_readCoin wsX2_takeEnd := goodIn_r _ [44, 2, 20, 19, 25, 26, 27, 7, 28, 29, 30, 31, 32, 33, 34, 35, 10, 11, 12, 13, 14, 54, 55, 56, 57, 58, 59, 60, 85, 86] (by decide +kernel) (by decide +kernel)
set_option maxRecDepth 20000 in
theorem gX2_readCoin_X2_takeEnd : GoodIn wsX2_readCoin (wsV RX2 101 RX2 yX2_takeEnd wsX2_takeEnd) := goodIn_app (goodIn_of _ (by decide +kernel)) ggX2_readCoin_X2_takeEnd
set_option maxRecDepth 20000 in
theorem ggX2_readCoin_X1_addKind : GoodIn wsX2_readCoin wsX1_addKind := goodIn_r _ [49, 50, 51, 52, 53, 61, 62, 63, 64, 65, 66, 67, 68, 69] (by decide +kernel) (by decide +kernel)
set_option maxRecDepth 20000 in
theorem gX2_readCoin_X1_addKind : GoodIn wsX2_readCoin (wsV RX2 108 RX1 yX1_addKind wsX1_addKind) := goodIn_app (goodIn_of _ (by decide +kernel)) ggX2_readCoin_X1_addKind
theorem dX2_readCoin_0 : decode cX2_readCoin 0 = .ok (.aload_n 0, 1) := by decide +kernel
theorem dX2_readCoin_1 : decode cX2_readCoin 1 = .ok (.aload_n 0, 1) := by decide +kernel
theorem dX2_readCoin_2 : decode cX2_readCoin 2 = .ok (.getfield 12, 3) := by decide +kernel
theorem dX2_readCoin_5 : decode cX2_readCoin 5 = .ok (.getfield 91, 3) := by decide +kernel
theorem dX2_readCoin_8 : decode cX2_readCoin 8 = .ok (.iconst 5, 1) := by decide +kernel
theorem dX2_readCoin_9 : decode cX2_readCoin 9 = .ok (.invokevirtual 94, 3) := by decide +kernel
theorem dX2_readCoin_12 : decode cX2_readCoin 12 = .ok (.aload_n 0, 1) := by decide +kernel
theorem dX2_readCoin_13 : decode cX2_readCoin 13 = .ok (.iconst 1, 1) := by decide +kernel
theorem dX2_readCoin_14 : decode cX2_readCoin 14 = .ok (.bipush 99, 2) := by decide +kernel
theorem dX2_readCoin_16 : decode cX2_readCoin 16 = .ok (.invokevirtual 97, 3) := by decide +kernel
theorem dX2_readCoin_19 : decode cX2_readCoin 19 = .ok (.istore_n 1, 1) := by decide +kernel
theorem dX2_readCoin_20 : decode cX2_readCoin 20 = .ok (.aload_n 0, 1) := by decide +kernel
theorem dX2_readCoin_21 : decode cX2_readCoin 21 = .ok (.bipush 10, 2) := by decide +kernel
theorem dX2_readCoin_23 : decode cX2_readCoin 23 = .ok (.bipush 99, 2) := by decide +kernel
theorem dX2_readCoin_25 : decode cX2_readCoin 25 = .ok (.invokevirtual 97, 3) := by decide +kernel
theorem dX2_readCoin_28 : decode cX2_readCoin 28 = .ok (.istore_n 2, 1) := by decide +kernel
theorem dX2_readCoin_29 : decode cX2_readCoin 29 = .ok (.aload_n 0, 1) := by decide +kernel
theorem dX2_readCoin_30 : decode cX2_readCoin 30 = .ok (.iconst 0, 1) := by decide +kernel
theorem dX2_readCoin_31 : decode cX2_readCoin 31 = .ok (.bipush 60, 2) := by decide +kernel
theorem dX2_readCoin_33 : decode cX2_readCoin 33 = .ok (.invokevirtual 97, 3) := by decide +kernel
theorem dX2_readCoin_36 : decode cX2_readCoin 36 = .ok (.istore_n 3, 1) := by decide +kernel
theorem dX2_readCoin_37 : decode cX2_readCoin 37 = .ok (.aload_n 0, 1) := by decide +kernel
theorem dX2_readCoin_38 : decode cX2_readCoin 38 = .ok (.invokevirtual 101, 3) := by decide +kernel
theorem dX2_readCoin_41 : decode cX2_readCoin 41 = .ok (.aload_n 0, 1) := by decide +kernel
theorem dX2_readCoin_42 : decode cX2_readCoin 42 = .ok (.getfield 40, 3) := by decide +kernel
theorem dX2_readCoin_45 : decode cX2_readCoin 45 = .ok (.ifCond .ne 39, 3) := by decide +kernel
theorem dX2_readCoin_48 : decode cX2_readCoin 48 = .ok (.aload_n 0, 1) := by decide +kernel
theorem dX2_readCoin_49 : decode cX2_readCoin 49 = .ok (.getfield 12, 3) := by decide +kernel
theorem dX2_readCoin_52 : decode cX2_readCoin 52 = .ok (.getfield 91, 3) := by decide +kernel
theorem dX2_readCoin_55 : decode cX2_readCoin 55 = .ok (.iconst 5, 1) := by decide +kernel
theorem dX2_readCoin_56 : decode cX2_readCoin 56 = .ok (.if_icmp .ge 28, 3) := by decide +kernel
theorem dX2_readCoin_59 : decode cX2_readCoin 59 = .ok (.aload_n 0, 1) := by decide +kernel
theorem dX2_readCoin_60 : decode cX2_readCoin 60 = .ok (.getfield 21, 3) := by decide +kernel
theorem dX2_readCoin_63 : decode cX2_readCoin 63 = .ok (.getfield 104, 3) := by decide +kernel
theorem dX2_readCoin_66 : decode cX2_readCoin 66 = .ok (.aload_n 0, 1) := by decide +kernel
theorem dX2_readCoin_67 : decode cX2_readCoin 67 = .ok (.getfield 12, 3) := by decide +kernel
theorem dX2_readCoin_70 : decode cX2_readCoin 70 = .ok (.getfield 91, 3) := by decide +kernel
theorem dX2_readCoin_73 : decode cX2_readCoin 73 = .ok (.iload_n 3, 1) := by decide +kernel
theorem dX2_readCoin_74 : decode cX2_readCoin 74 = .ok (.iastore, 1) := by decide +kernel
theorem dX2_readCoin_75 : decode cX2_readCoin 75 = .ok (.aload_n 0, 1) := by decide +kernel
theorem dX2_readCoin_76 : decode cX2_readCoin 76 = .ok (.getfield 12, 3) := by decide +kernel
theorem dX2_readCoin_79 : decode cX2_readCoin 79 = .ok (.iload_n 1, 1) := by decide +kernel
theorem dX2_readCoin_80 : decode cX2_readCoin 80 = .ok (.iload_n 2, 1) := by decide +kernel
theorem dX2_readCoin_81 : decode cX2_readCoin 81 = .ok (.invokevirtual 108, 3) := by decide +kernel
theorem dX2_readCoin_84 : decode cX2_readCoin 84 = .ok (.return_, 1) := by decide +kernel
set_option maxRecDepth 20000 in
theorem ggX2_readColumn_X2_refuseSixth : GoodIn wsX2_readColumn wsX2_refuseSixth := goodIn_r _ [9, 2, 10, 11, 12, 8, 13, 3, 14, 62, 63, 64, 65, 66, 67, 68] (by decide +kernel) (by decide +kernel)
set_option maxRecDepth 20000 in
theorem gX2_readColumn_X2_refuseSixth : GoodIn wsX2_readColumn (wsV RX2 94 RX2 yX2_refuseSixth wsX2_refuseSixth) := goodIn_app (goodIn_of _ (by decide +kernel)) ggX2_readColumn_X2_refuseSixth
set_option maxRecDepth 20000 in
theorem ggX2_readColumn_X2_takeNumber : GoodIn wsX2_readColumn wsX2_takeNumber := goodIn_r _ [18, 3, 19, 2, 20, 21, 22, 23, 24, 25, 26, 27, 8, 28, 29, 30, 31, 32, 33, 34, 35, 36, 37, 38, 39, 40, 10, 11, 12, 13, 14, 62, 63, 64, 65, 66, 67, 68, 78, 79] (by decide +kernel) (by decide +kernel)
set_option maxRecDepth 20000 in
theorem gX2_readColumn_X2_takeNumber : GoodIn wsX2_readColumn (wsV RX2 97 RX2 yX2_takeNumber wsX2_takeNumber) := goodIn_app (goodIn_of _ (by decide +kernel)) ggX2_readColumn_X2_takeNumber
set_option maxRecDepth 20000 in
theorem ggX2_readColumn_X2_fail : GoodIn wsX2_readColumn wsX2_fail := goodIn_r _ [13, 3, 14, 62, 63, 64, 65, 66, 67, 68] (by decide +kernel) (by decide +kernel)
set_option maxRecDepth 20000 in
theorem gX2_readColumn_X2_fail : GoodIn wsX2_readColumn (wsV RX2 87 RX2 yX2_fail wsX2_fail) := goodIn_app (goodIn_of _ (by decide +kernel)) ggX2_readColumn_X2_fail
set_option maxRecDepth 20000 in
theorem ggX2_readColumn_X2_takeEnd : GoodIn wsX2_readColumn wsX2_takeEnd := goodIn_r _ [44, 3, 20, 19, 25, 26, 27, 8, 28, 29, 30, 31, 32, 33, 34, 35, 10, 11, 12, 13, 14, 62, 63, 64, 65, 66, 67, 68, 78, 79] (by decide +kernel) (by decide +kernel)
set_option maxRecDepth 20000 in
theorem gX2_readColumn_X2_takeEnd : GoodIn wsX2_readColumn (wsV RX2 101 RX2 yX2_takeEnd wsX2_takeEnd) := goodIn_app (goodIn_of _ (by decide +kernel)) ggX2_readColumn_X2_takeEnd
set_option maxRecDepth 20000 in
theorem ggX2_readColumn_X4_setColumn : GoodIn wsX2_readColumn wsX4_setColumn := goodIn_r _ [49, 50, 51, 52, 53, 54, 55, 56, 57, 48, 58, 59, 60, 61, 80, 81, 82, 83, 84, 85, 86, 87, 88, 89, 90, 91, 92, 93, 94] (by decide +kernel) (by decide +kernel)
set_option maxRecDepth 20000 in
theorem gX2_readColumn_X4_setColumn : GoodIn wsX2_readColumn (wsV RX2 114 RX4 yX4_setColumn wsX4_setColumn) := goodIn_app (goodIn_of _ (by decide +kernel)) ggX2_readColumn_X4_setColumn
theorem dX2_readColumn_0 : decode cX2_readColumn 0 = .ok (.aload_n 0, 1) := by decide +kernel
theorem dX2_readColumn_1 : decode cX2_readColumn 1 = .ok (.aload_n 0, 1) := by decide +kernel
theorem dX2_readColumn_2 : decode cX2_readColumn 2 = .ok (.getfield 12, 3) := by decide +kernel
theorem dX2_readColumn_5 : decode cX2_readColumn 5 = .ok (.getfield 111, 3) := by decide +kernel
theorem dX2_readColumn_8 : decode cX2_readColumn 8 = .ok (.iconst 5, 1) := by decide +kernel
theorem dX2_readColumn_9 : decode cX2_readColumn 9 = .ok (.invokevirtual 94, 3) := by decide +kernel
theorem dX2_readColumn_12 : decode cX2_readColumn 12 = .ok (.aload_n 0, 1) := by decide +kernel
theorem dX2_readColumn_13 : decode cX2_readColumn 13 = .ok (.iconst 1, 1) := by decide +kernel
theorem dX2_readColumn_14 : decode cX2_readColumn 14 = .ok (.bipush 99, 2) := by decide +kernel
theorem dX2_readColumn_16 : decode cX2_readColumn 16 = .ok (.invokevirtual 97, 3) := by decide +kernel
theorem dX2_readColumn_19 : decode cX2_readColumn 19 = .ok (.istore_n 1, 1) := by decide +kernel
theorem dX2_readColumn_20 : decode cX2_readColumn 20 = .ok (.aload_n 0, 1) := by decide +kernel
theorem dX2_readColumn_21 : decode cX2_readColumn 21 = .ok (.iconst 1, 1) := by decide +kernel
theorem dX2_readColumn_22 : decode cX2_readColumn 22 = .ok (.bipush 99, 2) := by decide +kernel
theorem dX2_readColumn_24 : decode cX2_readColumn 24 = .ok (.invokevirtual 97, 3) := by decide +kernel
theorem dX2_readColumn_27 : decode cX2_readColumn 27 = .ok (.istore_n 2, 1) := by decide +kernel
theorem dX2_readColumn_28 : decode cX2_readColumn 28 = .ok (.aload_n 0, 1) := by decide +kernel
theorem dX2_readColumn_29 : decode cX2_readColumn 29 = .ok (.iconst 1, 1) := by decide +kernel
theorem dX2_readColumn_30 : decode cX2_readColumn 30 = .ok (.bipush 99, 2) := by decide +kernel
theorem dX2_readColumn_32 : decode cX2_readColumn 32 = .ok (.invokevirtual 97, 3) := by decide +kernel
theorem dX2_readColumn_35 : decode cX2_readColumn 35 = .ok (.istore_n 3, 1) := by decide +kernel
theorem dX2_readColumn_36 : decode cX2_readColumn 36 = .ok (.iload_n 3, 1) := by decide +kernel
theorem dX2_readColumn_37 : decode cX2_readColumn 37 = .ok (.iload_n 2, 1) := by decide +kernel
theorem dX2_readColumn_38 : decode cX2_readColumn 38 = .ok (.if_icmp .ge 12, 3) := by decide +kernel
theorem dX2_readColumn_41 : decode cX2_readColumn 41 = .ok (.aload_n 0, 1) := by decide +kernel
theorem dX2_readColumn_42 : decode cX2_readColumn 42 = .ok (.iconst 4, 1) := by decide +kernel
theorem dX2_readColumn_43 : decode cX2_readColumn 43 = .ok (.aload_n 0, 1) := by decide +kernel
theorem dX2_readColumn_44 : decode cX2_readColumn 44 = .ok (.getfield 84, 3) := by decide +kernel
theorem dX2_readColumn_47 : decode cX2_readColumn 47 = .ok (.invokevirtual 87, 3) := by decide +kernel
theorem dX2_readColumn_50 : decode cX2_readColumn 50 = .ok (.aload_n 0, 1) := by decide +kernel
theorem dX2_readColumn_51 : decode cX2_readColumn 51 = .ok (.iconst 0, 1) := by decide +kernel
theorem dX2_readColumn_52 : decode cX2_readColumn 52 = .ok (.bipush 60, 2) := by decide +kernel
theorem dX2_readColumn_54 : decode cX2_readColumn 54 = .ok (.invokevirtual 97, 3) := by decide +kernel
theorem dX2_readColumn_57 : decode cX2_readColumn 57 = .ok (.istore 4, 2) := by decide +kernel
theorem dX2_readColumn_59 : decode cX2_readColumn 59 = .ok (.aload_n 0, 1) := by decide +kernel
theorem dX2_readColumn_60 : decode cX2_readColumn 60 = .ok (.invokevirtual 101, 3) := by decide +kernel
theorem dX2_readColumn_63 : decode cX2_readColumn 63 = .ok (.aload_n 0, 1) := by decide +kernel
theorem dX2_readColumn_64 : decode cX2_readColumn 64 = .ok (.getfield 40, 3) := by decide +kernel
theorem dX2_readColumn_67 : decode cX2_readColumn 67 = .ok (.ifCond .ne 46, 3) := by decide +kernel
theorem dX2_readColumn_70 : decode cX2_readColumn 70 = .ok (.aload_n 0, 1) := by decide +kernel
theorem dX2_readColumn_71 : decode cX2_readColumn 71 = .ok (.getfield 12, 3) := by decide +kernel
theorem dX2_readColumn_74 : decode cX2_readColumn 74 = .ok (.getfield 111, 3) := by decide +kernel
theorem dX2_readColumn_77 : decode cX2_readColumn 77 = .ok (.iconst 5, 1) := by decide +kernel
theorem dX2_readColumn_78 : decode cX2_readColumn 78 = .ok (.if_icmp .ge 35, 3) := by decide +kernel
theorem dX2_readColumn_81 : decode cX2_readColumn 81 = .ok (.aload_n 0, 1) := by decide +kernel
theorem dX2_readColumn_82 : decode cX2_readColumn 82 = .ok (.getfield 21, 3) := by decide +kernel
theorem dX2_readColumn_85 : decode cX2_readColumn 85 = .ok (.aload_n 0, 1) := by decide +kernel
theorem dX2_readColumn_86 : decode cX2_readColumn 86 = .ok (.getfield 12, 3) := by decide +kernel
theorem dX2_readColumn_89 : decode cX2_readColumn 89 = .ok (.getfield 111, 3) := by decide +kernel
theorem dX2_readColumn_92 : decode cX2_readColumn 92 = .ok (.iload_n 1, 1) := by decide +kernel
theorem dX2_readColumn_93 : decode cX2_readColumn 93 = .ok (.iload_n 2, 1) := by decide +kernel
theorem dX2_readColumn_94 : decode cX2_readColumn 94 = .ok (.iload_n 3, 1) := by decide +kernel
theorem dX2_readColumn_95 : decode cX2_readColumn 95 = .ok (.iload 4, 2) := by decide +kernel
theorem dX2_readColumn_97 : decode cX2_readColumn 97 = .ok (.invokevirtual 114, 3) := by decide +kernel
theorem dX2_readColumn_100 : decode cX2_readColumn 100 = .ok (.aload_n 0, 1) := by decide +kernel
theorem dX2_readColumn_101 : decode cX2_readColumn 101 = .ok (.getfield 12, 3) := by decide +kernel
theorem dX2_readColumn_104 : decode cX2_readColumn 104 = .ok (.dup, 1) := by decide +kernel
theorem dX2_readColumn_105 : decode cX2_readColumn 105 = .ok (.getfield 111, 3) := by decide +kernel
theorem dX2_readColumn_108 : decode cX2_readColumn 108 = .ok (.iconst 1, 1) := by decide +kernel
theorem dX2_readColumn_109 : decode cX2_readColumn 109 = .ok (.iadd, 1) := by decide +kernel
theorem dX2_readColumn_110 : decode cX2_readColumn 110 = .ok (.putfield 111, 3) := by decide +kernel
theorem dX2_readColumn_113 : decode cX2_readColumn 113 = .ok (.return_, 1) := by decide +kernel
set_option maxRecDepth 20000 in
theorem ggX2_readSlug_X2_refuseSixth : GoodIn wsX2_readSlug wsX2_refuseSixth := goodIn_r _ [7, 8, 9, 10, 11, 6, 12, 2, 13, 51, 52, 53, 54, 55, 56, 57] (by decide +kernel) (by decide +kernel)
set_option maxRecDepth 20000 in
theorem gX2_readSlug_X2_refuseSixth : GoodIn wsX2_readSlug (wsV RX2 94 RX2 yX2_refuseSixth wsX2_refuseSixth) := goodIn_app (goodIn_of _ (by decide +kernel)) ggX2_readSlug_X2_refuseSixth
set_option maxRecDepth 20000 in
theorem ggX2_readSlug_X2_takeNumber : GoodIn wsX2_readSlug wsX2_takeNumber := goodIn_r _ [17, 2, 18, 8, 19, 20, 21, 22, 23, 24, 25, 26, 6, 27, 28, 29, 30, 31, 32, 33, 34, 35, 36, 37, 38, 39, 9, 10, 11, 12, 13, 51, 52, 53, 54, 55, 56, 57, 67, 68] (by decide +kernel) (by decide +kernel)
set_option maxRecDepth 20000 in
theorem gX2_readSlug_X2_takeNumber : GoodIn wsX2_readSlug (wsV RX2 97 RX2 yX2_takeNumber wsX2_takeNumber) := goodIn_app (goodIn_of _ (by decide +kernel)) ggX2_readSlug_X2_takeNumber
set_option maxRecDepth 20000 in
theorem ggX2_readSlug_X2_takeEnd : GoodIn wsX2_readSlug wsX2_takeEnd := goodIn_r _ [43, 2, 19, 18, 24, 25, 26, 6, 27, 28, 29, 30, 31, 32, 33, 34, 9, 10, 11, 12, 13, 51, 52, 53, 54, 55, 56, 57, 67, 68] (by decide +kernel) (by decide +kernel)
set_option maxRecDepth 20000 in
theorem gX2_readSlug_X2_takeEnd : GoodIn wsX2_readSlug (wsV RX2 101 RX2 yX2_takeEnd wsX2_takeEnd) := goodIn_app (goodIn_of _ (by decide +kernel)) ggX2_readSlug_X2_takeEnd
set_option maxRecDepth 20000 in
theorem ggX2_readSlug_X1_addSlug : GoodIn wsX2_readSlug wsX1_addSlug := goodIn_r _ [48, 49, 50, 58, 59, 60, 61, 62, 63, 64, 65, 66] (by decide +kernel) (by decide +kernel)
set_option maxRecDepth 20000 in
theorem gX2_readSlug_X1_addSlug : GoodIn wsX2_readSlug (wsV RX2 121 RX1 yX1_addSlug wsX1_addSlug) := goodIn_app (goodIn_of _ (by decide +kernel)) ggX2_readSlug_X1_addSlug
theorem dX2_readSlug_0 : decode cX2_readSlug 0 = .ok (.aload_n 0, 1) := by decide +kernel
theorem dX2_readSlug_1 : decode cX2_readSlug 1 = .ok (.aload_n 0, 1) := by decide +kernel
theorem dX2_readSlug_2 : decode cX2_readSlug 2 = .ok (.getfield 12, 3) := by decide +kernel
