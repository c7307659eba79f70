theorem dX2_takeNumber_133 : decode cX2_takeNumber 133 = .ok (.if_icmp .le 12, 3) := by decide +kernel
theorem dX2_takeNumber_136 : decode cX2_takeNumber 136 = .ok (.aload_n 0, 1) := by decide +kernel
theorem dX2_takeNumber_137 : decode cX2_takeNumber 137 = .ok (.iconst 2, 1) := by decide +kernel
theorem dX2_takeNumber_138 : decode cX2_takeNumber 138 = .ok (.aload_n 0, 1) := by decide +kernel
theorem dX2_takeNumber_139 : decode cX2_takeNumber 139 = .ok (.getfield 84, 3) := by decide +kernel
theorem dX2_takeNumber_142 : decode cX2_takeNumber 142 = .ok (.invokevirtual 87, 3) := by decide +kernel
theorem dX2_takeNumber_145 : decode cX2_takeNumber 145 = .ok (.iload_n 3, 1) := by decide +kernel
theorem dX2_takeNumber_146 : decode cX2_takeNumber 146 = .ok (.ireturn, 1) := by decide +kernel
set_option maxRecDepth 20000 in
theorem ggX2_takeRhythm_X2_takeWord : GoodIn wsX2_takeRhythm wsX2_takeWord := goodIn_r _ [9, 2, 3, 4, 10, 11, 12, 8, 13, 14, 15, 16, 17, 18, 19, 20, 21, 22, 23, 24, 25, 31, 32, 33, 34, 35, 36, 37, 38, 39] (by decide +kernel) (by decide +kernel)
set_option maxRecDepth 20000 in
theorem gX2_takeRhythm_X2_takeWord : GoodIn wsX2_takeRhythm (wsV RX2 57 RX2 yX2_takeWord wsX2_takeWord) := goodIn_app (goodIn_of _ (by decide +kernel)) ggX2_takeRhythm_X2_takeWord
set_option maxRecDepth 20000 in
theorem ggX2_takeRhythm_X2_fail : GoodIn wsX2_takeRhythm wsX2_fail := goodIn_r _ [29, 1, 30, 31, 32, 33, 34, 35, 36, 37] (by decide +kernel) (by decide +kernel)
set_option maxRecDepth 20000 in
theorem gX2_takeRhythm_X2_fail : GoodIn wsX2_takeRhythm (wsV RX2 87 RX2 yX2_fail wsX2_fail) := goodIn_app (goodIn_of _ (by decide +kernel)) ggX2_takeRhythm_X2_fail
set_option maxRecDepth 20000 in
theorem ggX2_takeRhythm_X5_byteAt : GoodIn wsX2_takeRhythm wsX5_byteAt := goodIn_r _ [18, 19, 20, 38, 39] (by decide +kernel) (by decide +kernel)
set_option maxRecDepth 20000 in
theorem gX2_takeRhythm_X5_byteAt : GoodIn wsX2_takeRhythm (wsV RX2 137 RX5 yX5_byteAt wsX5_byteAt) := goodIn_app (goodIn_of _ (by decide +kernel)) ggX2_takeRhythm_X5_byteAt
theorem dX2_takeRhythm_0 : decode cX2_takeRhythm 0 = .ok (.aload_n 0, 1) := by decide +kernel
theorem dX2_takeRhythm_1 : decode cX2_takeRhythm 1 = .ok (.getfield 40, 3) := by decide +kernel
theorem dX2_takeRhythm_4 : decode cX2_takeRhythm 4 = .ok (.ifCond .eq 5, 3) := by decide +kernel
theorem dX2_takeRhythm_7 : decode cX2_takeRhythm 7 = .ok (.iconst 0, 1) := by decide +kernel
theorem dX2_takeRhythm_8 : decode cX2_takeRhythm 8 = .ok (.ireturn, 1) := by decide +kernel
theorem dX2_takeRhythm_9 : decode cX2_takeRhythm 9 = .ok (.aload_n 0, 1) := by decide +kernel
theorem dX2_takeRhythm_10 : decode cX2_takeRhythm 10 = .ok (.invokevirtual 57, 3) := by decide +kernel
theorem dX2_takeRhythm_13 : decode cX2_takeRhythm 13 = .ok (.aload_n 0, 1) := by decide +kernel
theorem dX2_takeRhythm_14 : decode cX2_takeRhythm 14 = .ok (.getfield 37, 3) := by decide +kernel
theorem dX2_takeRhythm_17 : decode cX2_takeRhythm 17 = .ok (.aload_n 0, 1) := by decide +kernel
theorem dX2_takeRhythm_18 : decode cX2_takeRhythm 18 = .ok (.getfield 84, 3) := by decide +kernel
theorem dX2_takeRhythm_21 : decode cX2_takeRhythm 21 = .ok (.if_icmp .ne 12, 3) := by decide +kernel
theorem dX2_takeRhythm_24 : decode cX2_takeRhythm 24 = .ok (.aload_n 0, 1) := by decide +kernel
theorem dX2_takeRhythm_25 : decode cX2_takeRhythm 25 = .ok (.iconst 1, 1) := by decide +kernel
theorem dX2_takeRhythm_26 : decode cX2_takeRhythm 26 = .ok (.aload_n 0, 1) := by decide +kernel
theorem dX2_takeRhythm_27 : decode cX2_takeRhythm 27 = .ok (.getfield 84, 3) := by decide +kernel
theorem dX2_takeRhythm_30 : decode cX2_takeRhythm 30 = .ok (.invokevirtual 87, 3) := by decide +kernel
theorem dX2_takeRhythm_33 : decode cX2_takeRhythm 33 = .ok (.aload_n 0, 1) := by decide +kernel
theorem dX2_takeRhythm_34 : decode cX2_takeRhythm 34 = .ok (.getfield 37, 3) := by decide +kernel
theorem dX2_takeRhythm_37 : decode cX2_takeRhythm 37 = .ok (.aload_n 0, 1) := by decide +kernel
theorem dX2_takeRhythm_38 : decode cX2_takeRhythm 38 = .ok (.getfield 84, 3) := by decide +kernel
theorem dX2_takeRhythm_41 : decode cX2_takeRhythm 41 = .ok (.isub, 1) := by decide +kernel
theorem dX2_takeRhythm_42 : decode cX2_takeRhythm 42 = .ok (.bipush 6, 2) := by decide +kernel
theorem dX2_takeRhythm_44 : decode cX2_takeRhythm 44 = .ok (.if_icmp .le 12, 3) := by decide +kernel
theorem dX2_takeRhythm_47 : decode cX2_takeRhythm 47 = .ok (.aload_n 0, 1) := by decide +kernel
theorem dX2_takeRhythm_48 : decode cX2_takeRhythm 48 = .ok (.iconst 4, 1) := by decide +kernel
theorem dX2_takeRhythm_49 : decode cX2_takeRhythm 49 = .ok (.aload_n 0, 1) := by decide +kernel
theorem dX2_takeRhythm_50 : decode cX2_takeRhythm 50 = .ok (.getfield 84, 3) := by decide +kernel
theorem dX2_takeRhythm_53 : decode cX2_takeRhythm 53 = .ok (.invokevirtual 87, 3) := by decide +kernel
theorem dX2_takeRhythm_56 : decode cX2_takeRhythm 56 = .ok (.iconst 0, 1) := by decide +kernel
theorem dX2_takeRhythm_57 : decode cX2_takeRhythm 57 = .ok (.istore_n 1, 1) := by decide +kernel
theorem dX2_takeRhythm_58 : decode cX2_takeRhythm 58 = .ok (.aload_n 0, 1) := by decide +kernel
theorem dX2_takeRhythm_59 : decode cX2_takeRhythm 59 = .ok (.getfield 84, 3) := by decide +kernel
theorem dX2_takeRhythm_62 : decode cX2_takeRhythm 62 = .ok (.istore_n 2, 1) := by decide +kernel
theorem dX2_takeRhythm_63 : decode cX2_takeRhythm 63 = .ok (.iload_n 2, 1) := by decide +kernel
theorem dX2_takeRhythm_64 : decode cX2_takeRhythm 64 = .ok (.aload_n 0, 1) := by decide +kernel
theorem dX2_takeRhythm_65 : decode cX2_takeRhythm 65 = .ok (.getfield 37, 3) := by decide +kernel
theorem dX2_takeRhythm_68 : decode cX2_takeRhythm 68 = .ok (.if_icmp .ge 67, 3) := by decide +kernel
theorem dX2_takeRhythm_71 : decode cX2_takeRhythm 71 = .ok (.aload_n 0, 1) := by decide +kernel
theorem dX2_takeRhythm_72 : decode cX2_takeRhythm 72 = .ok (.getfield 29, 3) := by decide +kernel
theorem dX2_takeRhythm_75 : decode cX2_takeRhythm 75 = .ok (.iload_n 2, 1) := by decide +kernel
theorem dX2_takeRhythm_76 : decode cX2_takeRhythm 76 = .ok (.invokevirtual 137, 3) := by decide +kernel
theorem dX2_takeRhythm_79 : decode cX2_takeRhythm 79 = .ok (.bipush 108, 2) := by decide +kernel
theorem dX2_takeRhythm_81 : decode cX2_takeRhythm 81 = .ok (.if_icmp .eq 25, 3) := by decide +kernel
theorem dX2_takeRhythm_84 : decode cX2_takeRhythm 84 = .ok (.aload_n 0, 1) := by decide +kernel
theorem dX2_takeRhythm_85 : decode cX2_takeRhythm 85 = .ok (.getfield 29, 3) := by decide +kernel
theorem dX2_takeRhythm_88 : decode cX2_takeRhythm 88 = .ok (.iload_n 2, 1) := by decide +kernel
theorem dX2_takeRhythm_89 : decode cX2_takeRhythm 89 = .ok (.invokevirtual 137, 3) := by decide +kernel
theorem dX2_takeRhythm_92 : decode cX2_takeRhythm 92 = .ok (.bipush 114, 2) := by decide +kernel
theorem dX2_takeRhythm_94 : decode cX2_takeRhythm 94 = .ok (.if_icmp .eq 12, 3) := by decide +kernel
theorem dX2_takeRhythm_97 : decode cX2_takeRhythm 97 = .ok (.aload_n 0, 1) := by decide +kernel
theorem dX2_takeRhythm_98 : decode cX2_takeRhythm 98 = .ok (.iconst 4, 1) := by decide +kernel
theorem dX2_takeRhythm_99 : decode cX2_takeRhythm 99 = .ok (.aload_n 0, 1) := by decide +kernel
theorem dX2_takeRhythm_100 : decode cX2_takeRhythm 100 = .ok (.getfield 84, 3) := by decide +kernel
theorem dX2_takeRhythm_103 : decode cX2_takeRhythm 103 = .ok (.invokevirtual 87, 3) := by decide +kernel
theorem dX2_takeRhythm_106 : decode cX2_takeRhythm 106 = .ok (.iload_n 1, 1) := by decide +kernel
theorem dX2_takeRhythm_107 : decode cX2_takeRhythm 107 = .ok (.iconst 1, 1) := by decide +kernel
theorem dX2_takeRhythm_108 : decode cX2_takeRhythm 108 = .ok (.ishl, 1) := by decide +kernel
theorem dX2_takeRhythm_109 : decode cX2_takeRhythm 109 = .ok (.aload_n 0, 1) := by decide +kernel
theorem dX2_takeRhythm_110 : decode cX2_takeRhythm 110 = .ok (.getfield 29, 3) := by decide +kernel
theorem dX2_takeRhythm_113 : decode cX2_takeRhythm 113 = .ok (.iload_n 2, 1) := by decide +kernel
theorem dX2_takeRhythm_114 : decode cX2_takeRhythm 114 = .ok (.invokevirtual 137, 3) := by decide +kernel
theorem dX2_takeRhythm_117 : decode cX2_takeRhythm 117 = .ok (.bipush 114, 2) := by decide +kernel
theorem dX2_takeRhythm_119 : decode cX2_takeRhythm 119 = .ok (.if_icmp .ne 7, 3) := by decide +kernel
theorem dX2_takeRhythm_122 : decode cX2_takeRhythm 122 = .ok (.iconst 1, 1) := by decide +kernel
theorem dX2_takeRhythm_123 : decode cX2_takeRhythm 123 = .ok (.goto 4, 3) := by decide +kernel
theorem dX2_takeRhythm_126 : decode cX2_takeRhythm 126 = .ok (.iconst 0, 1) := by decide +kernel
theorem dX2_takeRhythm_127 : decode cX2_takeRhythm 127 = .ok (.ior, 1) := by decide +kernel
theorem dX2_takeRhythm_128 : decode cX2_takeRhythm 128 = .ok (.istore_n 1, 1) := by decide +kernel
theorem dX2_takeRhythm_129 : decode cX2_takeRhythm 129 = .ok (.iinc 2 1, 3) := by decide +kernel
theorem dX2_takeRhythm_132 : decode cX2_takeRhythm 132 = .ok (.goto (-69), 3) := by decide +kernel
theorem dX2_takeRhythm_135 : decode cX2_takeRhythm 135 = .ok (.iload_n 1, 1) := by decide +kernel
theorem dX2_takeRhythm_136 : decode cX2_takeRhythm 136 = .ok (.ireturn, 1) := by decide +kernel
set_option maxRecDepth 20000 in
theorem ggX2_takeEnd_X2_skipBlanks : GoodIn wsX2_takeEnd wsX2_skipBlanks := goodIn_r _ [8, 3, 2, 9, 10, 11, 12, 13, 14, 15, 21, 22, 23, 24, 25, 26, 27, 28, 29] (by decide +kernel) (by decide +kernel)
set_option maxRecDepth 20000 in
theorem gX2_takeEnd_X2_skipBlanks : GoodIn wsX2_takeEnd (wsV RX2 43 RX2 yX2_skipBlanks wsX2_skipBlanks) := goodIn_app (goodIn_of _ (by decide +kernel)) ggX2_takeEnd_X2_skipBlanks
set_option maxRecDepth 20000 in
theorem ggX2_takeEnd_X5_byteAt : GoodIn wsX2_takeEnd wsX5_byteAt := goodIn_r _ [13, 14, 15, 28, 29] (by decide +kernel) (by decide +kernel)
set_option maxRecDepth 20000 in
theorem gX2_takeEnd_X5_byteAt : GoodIn wsX2_takeEnd (wsV RX2 137 RX5 yX5_byteAt wsX5_byteAt) := goodIn_app (goodIn_of _ (by decide +kernel)) ggX2_takeEnd_X5_byteAt
set_option maxRecDepth 20000 in
theorem ggX2_takeEnd_X2_fail : GoodIn wsX2_takeEnd wsX2_fail := goodIn_r _ [19, 1, 20, 21, 22, 23, 24, 25, 26, 27] (by decide +kernel) (by decide +kernel)
set_option maxRecDepth 20000 in
theorem gX2_takeEnd_X2_fail : GoodIn wsX2_takeEnd (wsV RX2 87 RX2 yX2_fail wsX2_fail) := goodIn_app (goodIn_of _ (by decide +kernel)) ggX2_takeEnd_X2_fail
theorem dX2_takeEnd_0 : decode cX2_takeEnd 0 = .ok (.aload_n 0, 1) := by decide +kernel
theorem dX2_takeEnd_1 : decode cX2_takeEnd 1 = .ok (.getfield 40, 3) := by decide +kernel
theorem dX2_takeEnd_4 : decode cX2_takeEnd 4 = .ok (.ifCond .eq 4, 3) := by decide +kernel
theorem dX2_takeEnd_7 : decode cX2_takeEnd 7 = .ok (.return_, 1) := by decide +kernel
theorem dX2_takeEnd_8 : decode cX2_takeEnd 8 = .ok (.aload_n 0, 1) := by decide +kernel
theorem dX2_takeEnd_9 : decode cX2_takeEnd 9 = .ok (.invokevirtual 43, 3) := by decide +kernel
theorem dX2_takeEnd_12 : decode cX2_takeEnd 12 = .ok (.aload_n 0, 1) := by decide +kernel
theorem dX2_takeEnd_13 : decode cX2_takeEnd 13 = .ok (.getfield 29, 3) := by decide +kernel
theorem dX2_takeEnd_16 : decode cX2_takeEnd 16 = .ok (.aload_n 0, 1) := by decide +kernel
theorem dX2_takeEnd_17 : decode cX2_takeEnd 17 = .ok (.getfield 37, 3) := by decide +kernel
theorem dX2_takeEnd_20 : decode cX2_takeEnd 20 = .ok (.invokevirtual 137, 3) := by decide +kernel
theorem dX2_takeEnd_23 : decode cX2_takeEnd 23 = .ok (.bipush 59, 2) := by decide +kernel
theorem dX2_takeEnd_25 : decode cX2_takeEnd 25 = .ok (.if_icmp .eq 12, 3) := by decide +kernel
theorem dX2_takeEnd_28 : decode cX2_takeEnd 28 = .ok (.aload_n 0, 1) := by decide +kernel
theorem dX2_takeEnd_29 : decode cX2_takeEnd 29 = .ok (.iconst 1, 1) := by decide +kernel
theorem dX2_takeEnd_30 : decode cX2_takeEnd 30 = .ok (.aload_n 0, 1) := by decide +kernel
theorem dX2_takeEnd_31 : decode cX2_takeEnd 31 = .ok (.getfield 37, 3) := by decide +kernel
theorem dX2_takeEnd_34 : decode cX2_takeEnd 34 = .ok (.invokevirtual 87, 3) := by decide +kernel
theorem dX2_takeEnd_37 : decode cX2_takeEnd 37 = .ok (.aload_n 0, 1) := by decide +kernel
theorem dX2_takeEnd_38 : decode cX2_takeEnd 38 = .ok (.dup, 1) := by decide +kernel
theorem dX2_takeEnd_39 : decode cX2_takeEnd 39 = .ok (.getfield 37, 3) := by decide +kernel
theorem dX2_takeEnd_42 : decode cX2_takeEnd 42 = .ok (.iconst 1, 1) := by decide +kernel
theorem dX2_takeEnd_43 : decode cX2_takeEnd 43 = .ok (.iadd, 1) := by decide +kernel
theorem dX2_takeEnd_44 : decode cX2_takeEnd 44 = .ok (.putfield 37, 3) := by decide +kernel
theorem dX2_takeEnd_47 : decode cX2_takeEnd 47 = .ok (.return_, 1) := by decide +kernel
