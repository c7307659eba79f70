set_option maxRecDepth 20000 in
theorem ggX7_init_X5_init : GoodIn wsX7_init wsX5_init := goodIn_r _ [38, 39, 2, 3, 40, 41, 90, 91] (by decide +kernel) (by decide +kernel)
set_option maxRecDepth 20000 in
theorem gX7_init_X5_init_n9 : GoodIn wsX7_init (wsX5_init) := ggX7_init_X5_init
set_option maxRecDepth 20000 in
theorem ggX7_init_X2_init : GoodIn wsX7_init wsX2_init := goodIn_r _ [44, 45, 2, 3, 46, 32, 33, 47, 48, 24, 25, 49, 50, 51, 52, 53, 54, 55, 56, 57, 58, 59, 60, 61, 62, 63, 64, 65, 66, 67, 68, 69, 70, 71, 72, 73, 136, 137, 138, 139, 140, 141, 142, 143, 144, 103, 104, 105, 106, 107, 108, 109, 118, 119, 120, 121, 122, 123, 124, 125, 126, 127, 128, 129, 130, 131, 132] (by decide +kernel) (by decide +kernel)
set_option maxRecDepth 20000 in
theorem gX7_init_X2_init : GoodIn wsX7_init (wsX2_init) := ggX7_init_X2_init
set_option maxRecDepth 20000 in
theorem ggX7_init_X0_init : GoodIn wsX7_init wsX0_init := goodIn_r _ [75, 76, 2, 3, 55, 77, 78, 79, 110, 111, 112, 113] (by decide +kernel) (by decide +kernel)
set_option maxRecDepth 20000 in
theorem gX7_init_X0_init_n37 : GoodIn wsX7_init (wsX0_init) := ggX7_init_X0_init
set_option maxRecDepth 20000 in
theorem ggX7_init_X6_init : GoodIn wsX7_init wsX6_init := goodIn_r _ [81, 82, 2, 3, 55, 83, 84, 14, 85, 114, 115, 116, 117] (by decide +kernel) (by decide +kernel)
set_option maxRecDepth 20000 in
theorem gX7_init_X6_init_n44 : GoodIn wsX7_init (wsX6_init) := ggX7_init_X6_init
set_option maxRecDepth 20000 in
theorem ggX7_init_X4_init : GoodIn wsX7_init wsX4_init := goodIn_r _ [63, 64, 2, 3, 55, 65, 66, 67, 68, 69, 70, 71, 72, 73, 118, 119, 120, 121, 122, 123, 124, 125, 126, 127, 128, 129, 130, 131, 132] (by decide +kernel) (by decide +kernel)
set_option maxRecDepth 20000 in
theorem gX7_init_X4_init_n49 : GoodIn wsX7_init (wsX4_init) := ggX7_init_X4_init
set_option maxRecDepth 20000 in
theorem ggX7_init_X3_init : GoodIn wsX7_init wsX3_init := goodIn_r _ [87, 88, 2, 3, 55, 89, 133, 134, 135] (by decide +kernel) (by decide +kernel)
set_option maxRecDepth 20000 in
theorem gX7_init_X3_init_n56 : GoodIn wsX7_init (wsX3_init) := ggX7_init_X3_init
set_option maxRecDepth 20000 in
theorem ggX7_init_X1_init : GoodIn wsX7_init wsX1_init := goodIn_r _ [53, 54, 2, 3, 55, 56, 57, 58, 59, 60, 61, 136, 137, 138, 139, 140, 141, 142, 143, 144] (by decide +kernel) (by decide +kernel)
set_option maxRecDepth 20000 in
theorem gX7_init_X1_init_n63 : GoodIn wsX7_init (wsX1_init) := ggX7_init_X1_init
theorem dX7_init_0 : decode cX7_init 0 = .ok (.aload_n 0, 1) := by decide +kernel
theorem dX7_init_1 : decode cX7_init 1 = .ok (.invokespecial 1, 3) := by decide +kernel
theorem dX7_init_4 : decode cX7_init 4 = .ok (.aload_n 0, 1) := by decide +kernel
theorem dX7_init_5 : decode cX7_init 5 = .ok (.new 7, 3) := by decide +kernel
theorem dX7_init_8 : decode cX7_init 8 = .ok (.dup, 1) := by decide +kernel
theorem dX7_init_9 : decode cX7_init 9 = .ok (.invokespecial 9, 3) := by decide +kernel
theorem dX7_init_12 : decode cX7_init 12 = .ok (.putfield 10, 3) := by decide +kernel
theorem dX7_init_15 : decode cX7_init 15 = .ok (.aload_n 0, 1) := by decide +kernel
theorem dX7_init_16 : decode cX7_init 16 = .ok (.new 16, 3) := by decide +kernel
theorem dX7_init_19 : decode cX7_init 19 = .ok (.dup, 1) := by decide +kernel
theorem dX7_init_20 : decode cX7_init 20 = .ok (.aload_n 0, 1) := by decide +kernel
theorem dX7_init_21 : decode cX7_init 21 = .ok (.getfield 10, 3) := by decide +kernel
theorem dX7_init_24 : decode cX7_init 24 = .ok (.invokespecial 18, 3) := by decide +kernel
theorem dX7_init_27 : decode cX7_init 27 = .ok (.putfield 21, 3) := by decide +kernel
theorem dX7_init_30 : decode cX7_init 30 = .ok (.aload_n 0, 1) := by decide +kernel
theorem dX7_init_31 : decode cX7_init 31 = .ok (.iconst 2, 1) := by decide +kernel
theorem dX7_init_32 : decode cX7_init 32 = .ok (.anewarray 25, 3) := by decide +kernel
theorem dX7_init_35 : decode cX7_init 35 = .ok (.putfield 27, 3) := by decide +kernel
theorem dX7_init_38 : decode cX7_init 38 = .ok (.aload_n 0, 1) := by decide +kernel
theorem dX7_init_39 : decode cX7_init 39 = .ok (.iconst 2, 1) := by decide +kernel
theorem dX7_init_40 : decode cX7_init 40 = .ok (.newarray .boolean, 2) := by decide +kernel
theorem dX7_init_42 : decode cX7_init 42 = .ok (.putfield 31, 3) := by decide +kernel
theorem dX7_init_45 : decode cX7_init 45 = .ok (.aload_n 0, 1) := by decide +kernel
theorem dX7_init_46 : decode cX7_init 46 = .ok (.new 35, 3) := by decide +kernel
theorem dX7_init_49 : decode cX7_init 49 = .ok (.dup, 1) := by decide +kernel
theorem dX7_init_50 : decode cX7_init 50 = .ok (.invokespecial 37, 3) := by decide +kernel
theorem dX7_init_53 : decode cX7_init 53 = .ok (.putfield 38, 3) := by decide +kernel
theorem dX7_init_56 : decode cX7_init 56 = .ok (.aload_n 0, 1) := by decide +kernel
theorem dX7_init_57 : decode cX7_init 57 = .ok (.new 42, 3) := by decide +kernel
theorem dX7_init_60 : decode cX7_init 60 = .ok (.dup, 1) := by decide +kernel
theorem dX7_init_61 : decode cX7_init 61 = .ok (.invokespecial 44, 3) := by decide +kernel
theorem dX7_init_64 : decode cX7_init 64 = .ok (.putfield 45, 3) := by decide +kernel
theorem dX7_init_67 : decode cX7_init 67 = .ok (.aload_n 0, 1) := by decide +kernel
theorem dX7_init_68 : decode cX7_init 68 = .ok (.new 25, 3) := by decide +kernel
theorem dX7_init_71 : decode cX7_init 71 = .ok (.dup, 1) := by decide +kernel
theorem dX7_init_72 : decode cX7_init 72 = .ok (.invokespecial 49, 3) := by decide +kernel
theorem dX7_init_75 : decode cX7_init 75 = .ok (.putfield 50, 3) := by decide +kernel
theorem dX7_init_78 : decode cX7_init 78 = .ok (.aload_n 0, 1) := by decide +kernel
theorem dX7_init_79 : decode cX7_init 79 = .ok (.new 54, 3) := by decide +kernel
theorem dX7_init_82 : decode cX7_init 82 = .ok (.dup, 1) := by decide +kernel
theorem dX7_init_83 : decode cX7_init 83 = .ok (.invokespecial 56, 3) := by decide +kernel
theorem dX7_init_86 : decode cX7_init 86 = .ok (.putfield 57, 3) := by decide +kernel
theorem dX7_init_89 : decode cX7_init 89 = .ok (.aload_n 0, 1) := by decide +kernel
theorem dX7_init_90 : decode cX7_init 90 = .ok (.new 61, 3) := by decide +kernel
theorem dX7_init_93 : decode cX7_init 93 = .ok (.dup, 1) := by decide +kernel
theorem dX7_init_94 : decode cX7_init 94 = .ok (.invokespecial 63, 3) := by decide +kernel
theorem dX7_init_97 : decode cX7_init 97 = .ok (.putfield 64, 3) := by decide +kernel
theorem dX7_init_100 : decode cX7_init 100 = .ok (.aload_n 0, 1) := by decide +kernel
theorem dX7_init_101 : decode cX7_init 101 = .ok (.new 25, 3) := by decide +kernel
theorem dX7_init_104 : decode cX7_init 104 = .ok (.dup, 1) := by decide +kernel
theorem dX7_init_105 : decode cX7_init 105 = .ok (.invokespecial 49, 3) := by decide +kernel
theorem dX7_init_108 : decode cX7_init 108 = .ok (.putfield 68, 3) := by decide +kernel
theorem dX7_init_111 : decode cX7_init 111 = .ok (.aload_n 0, 1) := by decide +kernel
theorem dX7_init_112 : decode cX7_init 112 = .ok (.iconst (-1), 1) := by decide +kernel
theorem dX7_init_113 : decode cX7_init 113 = .ok (.putfield 71, 3) := by decide +kernel
theorem dX7_init_116 : decode cX7_init 116 = .ok (.iconst 0, 1) := by decide +kernel
theorem dX7_init_117 : decode cX7_init 117 = .ok (.istore_n 1, 1) := by decide +kernel
theorem dX7_init_118 : decode cX7_init 118 = .ok (.iload_n 1, 1) := by decide +kernel
theorem dX7_init_119 : decode cX7_init 119 = .ok (.iconst 2, 1) := by decide +kernel
theorem dX7_init_120 : decode cX7_init 120 = .ok (.if_icmp .ge 22, 3) := by decide +kernel
theorem dX7_init_123 : decode cX7_init 123 = .ok (.aload_n 0, 1) := by decide +kernel
theorem dX7_init_124 : decode cX7_init 124 = .ok (.getfield 27, 3) := by decide +kernel
theorem dX7_init_127 : decode cX7_init 127 = .ok (.iload_n 1, 1) := by decide +kernel
theorem dX7_init_128 : decode cX7_init 128 = .ok (.new 25, 3) := by decide +kernel
theorem dX7_init_131 : decode cX7_init 131 = .ok (.dup, 1) := by decide +kernel
theorem dX7_init_132 : decode cX7_init 132 = .ok (.invokespecial 49, 3) := by decide +kernel
theorem dX7_init_135 : decode cX7_init 135 = .ok (.aastore, 1) := by decide +kernel
theorem dX7_init_136 : decode cX7_init 136 = .ok (.iinc 1 1, 3) := by decide +kernel
theorem dX7_init_139 : decode cX7_init 139 = .ok (.goto (-21), 3) := by decide +kernel
theorem dX7_init_142 : decode cX7_init 142 = .ok (.return_, 1) := by decide +kernel
set_option maxRecDepth 20000 in
theorem ggX7_feed_X5_append : GoodIn wsX7_feed wsX5_append := goodIn_r _ [8, 9, 10, 22, 23] (by decide +kernel) (by decide +kernel)
set_option maxRecDepth 20000 in
theorem gX7_feed_X5_append : GoodIn wsX7_feed (wsV RX7 80 RX5 yX5_append wsX5_append) := goodIn_app (goodIn_of _ (by decide +kernel)) ggX7_feed_X5_append
theorem dX7_feed_0 : decode cX7_feed 0 = .ok (.iload_n 1, 1) := by decide +kernel
theorem dX7_feed_1 : decode cX7_feed 1 = .ok (.iconst 1, 1) := by decide +kernel
theorem dX7_feed_2 : decode cX7_feed 2 = .ok (.if_icmp .lt 9, 3) := by decide +kernel
theorem dX7_feed_5 : decode cX7_feed 5 = .ok (.iload_n 1, 1) := by decide +kernel
theorem dX7_feed_6 : decode cX7_feed 6 = .ok (.bipush 8, 2) := by decide +kernel
theorem dX7_feed_8 : decode cX7_feed 8 = .ok (.if_icmp .le 6, 3) := by decide +kernel
theorem dX7_feed_11 : decode cX7_feed 11 = .ok (.ldc 75, 2) := by decide +kernel
theorem dX7_feed_13 : decode cX7_feed 13 = .ok (.ireturn, 1) := by decide +kernel
theorem dX7_feed_14 : decode cX7_feed 14 = .ok (.aload_n 0, 1) := by decide +kernel
theorem dX7_feed_15 : decode cX7_feed 15 = .ok (.getfield 10, 3) := by decide +kernel
theorem dX7_feed_18 : decode cX7_feed 18 = .ok (.getfield 76, 3) := by decide +kernel
theorem dX7_feed_21 : decode cX7_feed 21 = .ok (.iload_n 1, 1) := by decide +kernel
theorem dX7_feed_22 : decode cX7_feed 22 = .ok (.iadd, 1) := by decide +kernel
theorem dX7_feed_23 : decode cX7_feed 23 = .ok (.sipush 400, 3) := by decide +kernel
theorem dX7_feed_26 : decode cX7_feed 26 = .ok (.if_icmp .le 6, 3) := by decide +kernel
theorem dX7_feed_29 : decode cX7_feed 29 = .ok (.ldc 79, 2) := by decide +kernel
theorem dX7_feed_31 : decode cX7_feed 31 = .ok (.ireturn, 1) := by decide +kernel
theorem dX7_feed_32 : decode cX7_feed 32 = .ok (.iload_n 1, 1) := by decide +kernel
theorem dX7_feed_33 : decode cX7_feed 33 = .ok (.iconst 1, 1) := by decide +kernel
theorem dX7_feed_34 : decode cX7_feed 34 = .ok (.isub, 1) := by decide +kernel
theorem dX7_feed_35 : decode cX7_feed 35 = .ok (.istore 4, 2) := by decide +kernel
theorem dX7_feed_37 : decode cX7_feed 37 = .ok (.iload 4, 2) := by decide +kernel
theorem dX7_feed_39 : decode cX7_feed 39 = .ok (.ifCond .lt 28, 3) := by decide +kernel
theorem dX7_feed_42 : decode cX7_feed 42 = .ok (.aload_n 0, 1) := by decide +kernel
theorem dX7_feed_43 : decode cX7_feed 43 = .ok (.getfield 10, 3) := by decide +kernel
theorem dX7_feed_46 : decode cX7_feed 46 = .ok (.lload_n 2, 1) := by decide +kernel
theorem dX7_feed_47 : decode cX7_feed 47 = .ok (.bipush 8, 2) := by decide +kernel
theorem dX7_feed_49 : decode cX7_feed 49 = .ok (.iload 4, 2) := by decide +kernel
theorem dX7_feed_51 : decode cX7_feed 51 = .ok (.imul, 1) := by decide +kernel
theorem dX7_feed_52 : decode cX7_feed 52 = .ok (.lshr, 1) := by decide +kernel
theorem dX7_feed_53 : decode cX7_feed 53 = .ok (.l2i, 1) := by decide +kernel
theorem dX7_feed_54 : decode cX7_feed 54 = .ok (.sipush 255, 3) := by decide +kernel
theorem dX7_feed_57 : decode cX7_feed 57 = .ok (.iand, 1) := by decide +kernel
theorem dX7_feed_58 : decode cX7_feed 58 = .ok (.invokevirtual 80, 3) := by decide +kernel
theorem dX7_feed_61 : decode cX7_feed 61 = .ok (.iinc 4 (-1), 3) := by decide +kernel
theorem dX7_feed_64 : decode cX7_feed 64 = .ok (.goto (-27), 3) := by decide +kernel
theorem dX7_feed_67 : decode cX7_feed 67 = .ok (.aload_n 0, 1) := by decide +kernel
theorem dX7_feed_68 : decode cX7_feed 68 = .ok (.getfield 10, 3) := by decide +kernel
theorem dX7_feed_71 : decode cX7_feed 71 = .ok (.getfield 76, 3) := by decide +kernel
theorem dX7_feed_74 : decode cX7_feed 74 = .ok (.ireturn, 1) := by decide +kernel
set_option maxRecDepth 20000 in
theorem ggX7_wall_X2_read : GoodIn wsX7_wall wsX2_read := goodIn_r _ [13, 14, 15, 16, 17, 18, 19, 20, 21, 22, 23, 24, 25, 26, 27, 28, 29, 30, 31, 32, 33, 34, 35, 36, 37, 38, 39, 40, 41, 42, 43, 44, 45, 46, 47, 48, 49, 50, 51, 52, 53, 54, 55, 56, 57, 58, 59, 60, 12, 61, 62, 63, 64, 65, 66, 67, 68, 69, 70, 71, 72, 73, 74, 75, 76, 77, 78, 79, 80, 81, 82, 83, 84, 85, 86, 87, 88, 89, 90, 91, 92, 93, 94, 95, 96, 97, 98, 99, 100, 101, 102, 103, 104, 105, 106, 107, 108, 109, 110, 111, 112, 113, 114, 115, 116, 117, 118, 119, 120, 121, 122, 123, 124, 125, 126, 127, 128, 129, 130, 131, 132, 133, 134, 135, 136, 137, 138, 139, 140, 141, 142, 143, 144, 145, 146, 147, 148, 149, 150, 151, 152, 153, 154, 155, 156, 157, 158, 159, 160, 161, 162, 163, 164, 165, 166, 167, 168, 169, 170, 171, 172, 173, 174, 175, 176, 177, 178, 179, 180, 181, 182, 183, 184, 185, 186, 187, 188, 189, 190, 191, 192, 193, 194, 195, 196, 197, 198, 199, 200, 201, 202, 203, 204, 205, 206, 207, 208, 227, 228, 229, 230, 231, 232, 233, 225, 226, 257, 258, 259, 260, 261, 262, 263, 264, 265, 234, 235, 236, 237, 238, 239, 240, 241, 242, 243, 244, 245, 246, 247, 248] (by decide +kernel) (by decide +kernel)
set_option maxRecDepth 20000 in
theorem gX7_wall_X2_read : GoodIn wsX7_wall (wsV RX7 84 RX2 yX2_read wsX2_read) := goodIn_app (goodIn_of _ (by decide +kernel)) ggX7_wall_X2_read
set_option maxRecDepth 20000 in
theorem ggX7_wall_X7_takeOverWhatWasRead : GoodIn wsX7_wall wsX7_takeOverWhatWasRead := goodIn_r _ [213, 8, 4, 1, 214, 215, 216, 217, 218, 219, 220, 221, 222, 223, 224, 227, 228, 229, 230, 231, 232, 233] (by decide +kernel) (by decide +kernel)
set_option maxRecDepth 20000 in
theorem gX7_wall_X7_takeOverWhatWasRead : GoodIn wsX7_wall (wsV RX7 97 RX7 yX7_takeOverWhatWasRead wsX7_takeOverWhatWasRead) := goodIn_app (goodIn_of _ (by decide +kernel)) ggX7_wall_X7_takeOverWhatWasRead
theorem dX7_wall_0 : decode cX7_wall 0 = .ok (.aload_n 0, 1) := by decide +kernel
theorem dX7_wall_1 : decode cX7_wall 1 = .ok (.getfield 21, 3) := by decide +kernel
theorem dX7_wall_4 : decode cX7_wall 4 = .ok (.invokevirtual 84, 3) := by decide +kernel
theorem dX7_wall_7 : decode cX7_wall 7 = .ok (.aload_n 0, 1) := by decide +kernel
theorem dX7_wall_8 : decode cX7_wall 8 = .ok (.getfield 10, 3) := by decide +kernel
theorem dX7_wall_11 : decode cX7_wall 11 = .ok (.iconst 0, 1) := by decide +kernel
theorem dX7_wall_12 : decode cX7_wall 12 = .ok (.putfield 76, 3) := by decide +kernel
theorem dX7_wall_15 : decode cX7_wall 15 = .ok (.aload_n 0, 1) := by decide +kernel
theorem dX7_wall_16 : decode cX7_wall 16 = .ok (.aload_n 0, 1) := by decide +kernel
theorem dX7_wall_17 : decode cX7_wall 17 = .ok (.getfield 21, 3) := by decide +kernel
theorem dX7_wall_20 : decode cX7_wall 20 = .ok (.getfield 87, 3) := by decide +kernel
theorem dX7_wall_23 : decode cX7_wall 23 = .ok (.putfield 71, 3) := by decide +kernel
theorem dX7_wall_26 : decode cX7_wall 26 = .ok (.aload_n 0, 1) := by decide +kernel
theorem dX7_wall_27 : decode cX7_wall 27 = .ok (.getfield 21, 3) := by decide +kernel
theorem dX7_wall_30 : decode cX7_wall 30 = .ok (.getfield 88, 3) := by decide +kernel
theorem dX7_wall_33 : decode cX7_wall 33 = .ok (.ifCond .eq 14, 3) := by decide +kernel
theorem dX7_wall_36 : decode cX7_wall 36 = .ok (.bipush (-10), 2) := by decide +kernel
theorem dX7_wall_38 : decode cX7_wall 38 = .ok (.aload_n 0, 1) := by decide +kernel
theorem dX7_wall_39 : decode cX7_wall 39 = .ok (.getfield 21, 3) := by decide +kernel
theorem dX7_wall_42 : decode cX7_wall 42 = .ok (.getfield 88, 3) := by decide +kernel
theorem dX7_wall_45 : decode cX7_wall 45 = .ok (.isub, 1) := by decide +kernel
theorem dX7_wall_46 : decode cX7_wall 46 = .ok (.ireturn, 1) := by decide +kernel
theorem dX7_wall_47 : decode cX7_wall 47 = .ok (.aload_n 0, 1) := by decide +kernel
theorem dX7_wall_48 : decode cX7_wall 48 = .ok (.getfield 21, 3) := by decide +kernel
theorem dX7_wall_51 : decode cX7_wall 51 = .ok (.getfield 91, 3) := by decide +kernel
theorem dX7_wall_54 : decode cX7_wall 54 = .ok (.aload_n 0, 1) := by decide +kernel
theorem dX7_wall_55 : decode cX7_wall 55 = .ok (.getfield 68, 3) := by decide +kernel
theorem dX7_wall_58 : decode cX7_wall 58 = .ok (.getfield 94, 3) := by decide +kernel
theorem dX7_wall_61 : decode cX7_wall 61 = .ok (.putfield 94, 3) := by decide +kernel
theorem dX7_wall_64 : decode cX7_wall 64 = .ok (.aload_n 0, 1) := by decide +kernel
theorem dX7_wall_65 : decode cX7_wall 65 = .ok (.invokevirtual 97, 3) := by decide +kernel
theorem dX7_wall_68 : decode cX7_wall 68 = .ok (.aload_n 0, 1) := by decide +kernel
theorem dX7_wall_69 : decode cX7_wall 69 = .ok (.getfield 38, 3) := by decide +kernel
theorem dX7_wall_72 : decode cX7_wall 72 = .ok (.iconst 0, 1) := by decide +kernel
theorem dX7_wall_73 : decode cX7_wall 73 = .ok (.putfield 100, 3) := by decide +kernel
theorem dX7_wall_76 : decode cX7_wall 76 = .ok (.aload_n 0, 1) := by decide +kernel
theorem dX7_wall_77 : decode cX7_wall 77 = .ok (.getfield 45, 3) := by decide +kernel
theorem dX7_wall_80 : decode cX7_wall 80 = .ok (.iconst 0, 1) := by decide +kernel
theorem dX7_wall_81 : decode cX7_wall 81 = .ok (.putfield 103, 3) := by decide +kernel
theorem dX7_wall_84 : decode cX7_wall 84 = .ok (.iconst 0, 1) := by decide +kernel
theorem dX7_wall_85 : decode cX7_wall 85 = .ok (.istore_n 1, 1) := by decide +kernel
theorem dX7_wall_86 : decode cX7_wall 86 = .ok (.iload_n 1, 1) := by decide +kernel
theorem dX7_wall_87 : decode cX7_wall 87 = .ok (.iconst 2, 1) := by decide +kernel
theorem dX7_wall_88 : decode cX7_wall 88 = .ok (.if_icmp .ge 16, 3) := by decide +kernel
theorem dX7_wall_91 : decode cX7_wall 91 = .ok (.aload_n 0, 1) := by decide +kernel
theorem dX7_wall_92 : decode cX7_wall 92 = .ok (.getfield 31, 3) := by decide +kernel
theorem dX7_wall_95 : decode cX7_wall 95 = .ok (.iload_n 1, 1) := by decide +kernel
theorem dX7_wall_96 : decode cX7_wall 96 = .ok (.iconst 0, 1) := by decide +kernel
theorem dX7_wall_97 : decode cX7_wall 97 = .ok (.bastore, 1) := by decide +kernel
theorem dX7_wall_98 : decode cX7_wall 98 = .ok (.iinc 1 1, 3) := by decide +kernel
theorem dX7_wall_101 : decode cX7_wall 101 = .ok (.goto (-15), 3) := by decide +kernel
theorem dX7_wall_104 : decode cX7_wall 104 = .ok (.aload_n 0, 1) := by decide +kernel
theorem dX7_wall_105 : decode cX7_wall 105 = .ok (.getfield 64, 3) := by decide +kernel
theorem dX7_wall_108 : decode cX7_wall 108 = .ok (.getfield 104, 3) := by decide +kernel
theorem dX7_wall_111 : decode cX7_wall 111 = .ok (.ireturn, 1) := by decide +kernel
theorem dX7_takeOverWhatWasRead_0 : decode cX7_takeOverWhatWasRead 0 = .ok (.aload_n 0, 1) := by decide +kernel
theorem dX7_takeOverWhatWasRead_1 : decode cX7_takeOverWhatWasRead 1 = .ok (.getfield 64, 3) := by decide +kernel
theorem dX7_takeOverWhatWasRead_4 : decode cX7_takeOverWhatWasRead 4 = .ok (.astore_n 1, 1) := by decide +kernel
theorem dX7_takeOverWhatWasRead_5 : decode cX7_takeOverWhatWasRead 5 = .ok (.aload_n 0, 1) := by decide +kernel
theorem dX7_takeOverWhatWasRead_6 : decode cX7_takeOverWhatWasRead 6 = .ok (.getfield 68, 3) := by decide +kernel
theorem dX7_takeOverWhatWasRead_9 : decode cX7_takeOverWhatWasRead 9 = .ok (.astore_n 2, 1) := by decide +kernel
theorem dX7_takeOverWhatWasRead_10 : decode cX7_takeOverWhatWasRead 10 = .ok (.aload_n 0, 1) := by decide +kernel
theorem dX7_takeOverWhatWasRead_11 : decode cX7_takeOverWhatWasRead 11 = .ok (.aload_n 0, 1) := by decide +kernel
theorem dX7_takeOverWhatWasRead_12 : decode cX7_takeOverWhatWasRead 12 = .ok (.getfield 21, 3) := by decide +kernel
theorem dX7_takeOverWhatWasRead_15 : decode cX7_takeOverWhatWasRead 15 = .ok (.getfield 107, 3) := by decide +kernel
theorem dX7_takeOverWhatWasRead_18 : decode cX7_takeOverWhatWasRead 18 = .ok (.putfield 64, 3) := by decide +kernel
theorem dX7_takeOverWhatWasRead_21 : decode cX7_takeOverWhatWasRead 21 = .ok (.aload_n 0, 1) := by decide +kernel
theorem dX7_takeOverWhatWasRead_22 : decode cX7_takeOverWhatWasRead 22 = .ok (.aload_n 0, 1) := by decide +kernel
theorem dX7_takeOverWhatWasRead_23 : decode cX7_takeOverWhatWasRead 23 = .ok (.getfield 21, 3) := by decide +kernel
theorem dX7_takeOverWhatWasRead_26 : decode cX7_takeOverWhatWasRead 26 = .ok (.getfield 91, 3) := by decide +kernel
theorem dX7_takeOverWhatWasRead_29 : decode cX7_takeOverWhatWasRead 29 = .ok (.putfield 68, 3) := by decide +kernel
theorem dX7_takeOverWhatWasRead_32 : decode cX7_takeOverWhatWasRead 32 = .ok (.aload_n 0, 1) := by decide +kernel
theorem dX7_takeOverWhatWasRead_33 : decode cX7_takeOverWhatWasRead 33 = .ok (.getfield 21, 3) := by decide +kernel
theorem dX7_takeOverWhatWasRead_36 : decode cX7_takeOverWhatWasRead 36 = .ok (.aload_n 1, 1) := by decide +kernel
theorem dX7_takeOverWhatWasRead_37 : decode cX7_takeOverWhatWasRead 37 = .ok (.putfield 107, 3) := by decide +kernel
theorem dX7_takeOverWhatWasRead_40 : decode cX7_takeOverWhatWasRead 40 = .ok (.aload_n 0, 1) := by decide +kernel
theorem dX7_takeOverWhatWasRead_41 : decode cX7_takeOverWhatWasRead 41 = .ok (.getfield 21, 3) := by decide +kernel
theorem dX7_takeOverWhatWasRead_44 : decode cX7_takeOverWhatWasRead 44 = .ok (.aload_n 2, 1) := by decide +kernel
theorem dX7_takeOverWhatWasRead_45 : decode cX7_takeOverWhatWasRead 45 = .ok (.putfield 91, 3) := by decide +kernel
theorem dX7_takeOverWhatWasRead_48 : decode cX7_takeOverWhatWasRead 48 = .ok (.return_, 1) := by decide +kernel
theorem dX7_fault_0 : decode cX7_fault 0 = .ok (.aload_n 0, 1) := by decide +kernel
theorem dX7_fault_1 : decode cX7_fault 1 = .ok (.getfield 71, 3) := by decide +kernel
theorem dX7_fault_4 : decode cX7_fault 4 = .ok (.ireturn, 1) := by decide +kernel
set_option maxRecDepth 20000 in
theorem ggX7_told_X1_valueOfTubes : GoodIn wsX7_told wsX1_valueOfTubes := goodIn_r _ [11, 12, 13, 25, 26, 27, 28, 29, 30, 31, 32, 33, 36, 37, 38, 39, 40, 41, 42, 43, 44, 45, 46, 47, 48, 49, 50] (by decide +kernel) (by decide +kernel)
set_option maxRecDepth 20000 in
theorem gX7_told_X1_valueOfTubes : GoodIn wsX7_told (wsV RX7 129 RX1 yX1_valueOfTubes wsX1_valueOfTubes) := goodIn_app (goodIn_of _ (by decide +kernel)) ggX7_told_X1_valueOfTubes
theorem dX7_told_0 : decode cX7_told 0 = .ok (.iload_n 1, 1) := by decide +kernel
theorem dX7_told_1 : decode cX7_told 1 = .ok (.tableswitch 163 0 11 #[63, 71, 79, 87, 95, 103, 111, 119, 127, 135, 143, 151], 63) := by decide +kernel
theorem dX7_told_64 : decode cX7_told 64 = .ok (.aload_n 0, 1) := by decide +kernel
theorem dX7_told_65 : decode cX7_told 65 = .ok (.getfield 64, 3) := by decide +kernel
theorem dX7_told_68 : decode cX7_told 68 = .ok (.getfield 108, 3) := by decide +kernel
theorem dX7_told_71 : decode cX7_told 71 = .ok (.ireturn, 1) := by decide +kernel
theorem dX7_told_72 : decode cX7_told 72 = .ok (.aload_n 0, 1) := by decide +kernel
theorem dX7_told_73 : decode cX7_told 73 = .ok (.getfield 64, 3) := by decide +kernel
theorem dX7_told_76 : decode cX7_told 76 = .ok (.getfield 104, 3) := by decide +kernel
theorem dX7_told_79 : decode cX7_told 79 = .ok (.ireturn, 1) := by decide +kernel
theorem dX7_told_80 : decode cX7_told 80 = .ok (.aload_n 0, 1) := by decide +kernel
theorem dX7_told_81 : decode cX7_told 81 = .ok (.getfield 64, 3) := by decide +kernel
theorem dX7_told_84 : decode cX7_told 84 = .ok (.getfield 111, 3) := by decide +kernel
theorem dX7_told_87 : decode cX7_told 87 = .ok (.ireturn, 1) := by decide +kernel
theorem dX7_told_88 : decode cX7_told 88 = .ok (.aload_n 0, 1) := by decide +kernel
theorem dX7_told_89 : decode cX7_told 89 = .ok (.getfield 10, 3) := by decide +kernel
theorem dX7_told_92 : decode cX7_told 92 = .ok (.getfield 76, 3) := by decide +kernel
theorem dX7_told_95 : decode cX7_told 95 = .ok (.ireturn, 1) := by decide +kernel
theorem dX7_told_96 : decode cX7_told 96 = .ok (.aload_n 0, 1) := by decide +kernel
theorem dX7_told_97 : decode cX7_told 97 = .ok (.getfield 68, 3) := by decide +kernel
theorem dX7_told_100 : decode cX7_told 100 = .ok (.getfield 114, 3) := by decide +kernel
theorem dX7_told_103 : decode cX7_told 103 = .ok (.ireturn, 1) := by decide +kernel
theorem dX7_told_104 : decode cX7_told 104 = .ok (.aload_n 0, 1) := by decide +kernel
theorem dX7_told_105 : decode cX7_told 105 = .ok (.getfield 68, 3) := by decide +kernel
theorem dX7_told_108 : decode cX7_told 108 = .ok (.getfield 117, 3) := by decide +kernel
theorem dX7_told_111 : decode cX7_told 111 = .ok (.ireturn, 1) := by decide +kernel
theorem dX7_told_112 : decode cX7_told 112 = .ok (.aload_n 0, 1) := by decide +kernel
theorem dX7_told_113 : decode cX7_told 113 = .ok (.getfield 68, 3) := by decide +kernel
theorem dX7_told_116 : decode cX7_told 116 = .ok (.getfield 120, 3) := by decide +kernel
theorem dX7_told_119 : decode cX7_told 119 = .ok (.ireturn, 1) := by decide +kernel
theorem dX7_told_120 : decode cX7_told 120 = .ok (.aload_n 0, 1) := by decide +kernel
theorem dX7_told_121 : decode cX7_told 121 = .ok (.getfield 68, 3) := by decide +kernel
theorem dX7_told_124 : decode cX7_told 124 = .ok (.getfield 123, 3) := by decide +kernel
theorem dX7_told_127 : decode cX7_told 127 = .ok (.ireturn, 1) := by decide +kernel
theorem dX7_told_128 : decode cX7_told 128 = .ok (.aload_n 0, 1) := by decide +kernel
theorem dX7_told_129 : decode cX7_told 129 = .ok (.getfield 68, 3) := by decide +kernel
theorem dX7_told_132 : decode cX7_told 132 = .ok (.getfield 126, 3) := by decide +kernel
theorem dX7_told_135 : decode cX7_told 135 = .ok (.ireturn, 1) := by decide +kernel
theorem dX7_told_136 : decode cX7_told 136 = .ok (.aload_n 0, 1) := by decide +kernel
theorem dX7_told_137 : decode cX7_told 137 = .ok (.getfield 38, 3) := by decide +kernel
theorem dX7_told_140 : decode cX7_told 140 = .ok (.getfield 100, 3) := by decide +kernel
theorem dX7_told_143 : decode cX7_told 143 = .ok (.ireturn, 1) := by decide +kernel
theorem dX7_told_144 : decode cX7_told 144 = .ok (.aload_n 0, 1) := by decide +kernel
theorem dX7_told_145 : decode cX7_told 145 = .ok (.getfield 45, 3) := by decide +kernel
theorem dX7_told_148 : decode cX7_told 148 = .ok (.getfield 103, 3) := by decide +kernel
