theorem dX2_readSlug_5 : decode cX2_readSlug 5 = .ok (.getfield 118, 3) := by decide +kernel
theorem dX2_readSlug_8 : decode cX2_readSlug 8 = .ok (.iconst 5, 1) := by decide +kernel
theorem dX2_readSlug_9 : decode cX2_readSlug 9 = .ok (.invokevirtual 94, 3) := by decide +kernel
theorem dX2_readSlug_12 : decode cX2_readSlug 12 = .ok (.aload_n 0, 1) := by decide +kernel
theorem dX2_readSlug_13 : decode cX2_readSlug 13 = .ok (.iconst 1, 1) := by decide +kernel
theorem dX2_readSlug_14 : decode cX2_readSlug 14 = .ok (.bipush 99, 2) := by decide +kernel
theorem dX2_readSlug_16 : decode cX2_readSlug 16 = .ok (.invokevirtual 97, 3) := by decide +kernel
theorem dX2_readSlug_19 : decode cX2_readSlug 19 = .ok (.istore_n 1, 1) := by decide +kernel
theorem dX2_readSlug_20 : decode cX2_readSlug 20 = .ok (.aload_n 0, 1) := by decide +kernel
theorem dX2_readSlug_21 : decode cX2_readSlug 21 = .ok (.invokevirtual 101, 3) := by decide +kernel
theorem dX2_readSlug_24 : decode cX2_readSlug 24 = .ok (.aload_n 0, 1) := by decide +kernel
theorem dX2_readSlug_25 : decode cX2_readSlug 25 = .ok (.getfield 40, 3) := by decide +kernel
theorem dX2_readSlug_28 : decode cX2_readSlug 28 = .ok (.ifCond .ne 11, 3) := by decide +kernel
theorem dX2_readSlug_31 : decode cX2_readSlug 31 = .ok (.aload_n 0, 1) := by decide +kernel
theorem dX2_readSlug_32 : decode cX2_readSlug 32 = .ok (.getfield 12, 3) := by decide +kernel
theorem dX2_readSlug_35 : decode cX2_readSlug 35 = .ok (.iload_n 1, 1) := by decide +kernel
theorem dX2_readSlug_36 : decode cX2_readSlug 36 = .ok (.invokevirtual 121, 3) := by decide +kernel
theorem dX2_readSlug_39 : decode cX2_readSlug 39 = .ok (.return_, 1) := by decide +kernel
set_option maxRecDepth 20000 in
theorem ggX2_readKick_X2_takeNumber : GoodIn wsX2_readKick wsX2_takeNumber := goodIn_r _ [9, 4, 3, 2, 10, 11, 12, 13, 14, 15, 16, 17, 8, 18, 19, 20, 21, 22, 23, 24, 25, 26, 27, 28, 29, 30, 31, 32, 33, 34, 35, 68, 69, 70, 71, 72, 73, 74, 84, 85] (by decide +kernel) (by decide +kernel)
set_option maxRecDepth 20000 in
theorem gX2_readKick_X2_takeNumber : GoodIn wsX2_readKick (wsV RX2 97 RX2 yX2_takeNumber wsX2_takeNumber) := goodIn_app (goodIn_of _ (by decide +kernel)) ggX2_readKick_X2_takeNumber
set_option maxRecDepth 20000 in
theorem ggX2_readKick_X1_hasRhythm : GoodIn wsX2_readKick wsX1_hasRhythm := goodIn_r _ [40, 41, 42, 43, 44, 39, 45, 46, 75, 76, 77, 78, 79, 80, 81, 82, 83] (by decide +kernel) (by decide +kernel)
set_option maxRecDepth 20000 in
theorem gX2_readKick_X1_hasRhythm : GoodIn wsX2_readKick (wsV RX2 125 RX1 yX1_hasRhythm wsX1_hasRhythm) := goodIn_app (goodIn_of _ (by decide +kernel)) ggX2_readKick_X1_hasRhythm
set_option maxRecDepth 20000 in
theorem ggX2_readKick_X2_fail : GoodIn wsX2_readKick wsX2_fail := goodIn_r _ [34, 4, 35, 68, 69, 70, 71, 72, 73, 74] (by decide +kernel) (by decide +kernel)
set_option maxRecDepth 20000 in
theorem gX2_readKick_X2_fail : GoodIn wsX2_readKick (wsV RX2 87 RX2 yX2_fail wsX2_fail) := goodIn_app (goodIn_of _ (by decide +kernel)) ggX2_readKick_X2_fail
set_option maxRecDepth 20000 in
theorem ggX2_readKick_X2_takeRhythm : GoodIn wsX2_readKick wsX2_takeRhythm := goodIn_r _ [50, 4, 3, 2, 10, 51, 52, 53, 8, 54, 15, 16, 17, 18, 19, 20, 21, 22, 23, 24, 25, 55, 56, 57, 58, 30, 31, 32, 33, 34, 35, 68, 69, 70, 71, 72, 73, 74, 84, 85] (by decide +kernel) (by decide +kernel)
set_option maxRecDepth 20000 in
theorem gX2_readKick_X2_takeRhythm : GoodIn wsX2_readKick (wsV RX2 129 RX2 yX2_takeRhythm wsX2_takeRhythm) := goodIn_app (goodIn_of _ (by decide +kernel)) ggX2_readKick_X2_takeRhythm
set_option maxRecDepth 20000 in
theorem ggX2_readKick_X2_takeEnd : GoodIn wsX2_readKick wsX2_takeEnd := goodIn_r _ [62, 4, 10, 3, 15, 16, 17, 8, 18, 19, 20, 21, 22, 23, 24, 25, 31, 32, 33, 34, 35, 68, 69, 70, 71, 72, 73, 74, 84, 85] (by decide +kernel) (by decide +kernel)
set_option maxRecDepth 20000 in
theorem gX2_readKick_X2_takeEnd : GoodIn wsX2_readKick (wsV RX2 101 RX2 yX2_takeEnd wsX2_takeEnd) := goodIn_app (goodIn_of _ (by decide +kernel)) ggX2_readKick_X2_takeEnd
set_option maxRecDepth 20000 in
theorem ggX2_readKick_X1_setRhythm : GoodIn wsX2_readKick wsX1_setRhythm := goodIn_r _ [66, 67, 41, 42, 43, 44, 39, 45, 46, 75, 76, 77, 78, 79, 80, 81, 82, 83] (by decide +kernel) (by decide +kernel)
set_option maxRecDepth 20000 in
theorem gX2_readKick_X1_setRhythm : GoodIn wsX2_readKick (wsV RX2 133 RX1 yX1_setRhythm wsX1_setRhythm) := goodIn_app (goodIn_of _ (by decide +kernel)) ggX2_readKick_X1_setRhythm
theorem dX2_readKick_0 : decode cX2_readKick 0 = .ok (.aload_n 0, 1) := by decide +kernel
theorem dX2_readKick_1 : decode cX2_readKick 1 = .ok (.iconst 0, 1) := by decide +kernel
theorem dX2_readKick_2 : decode cX2_readKick 2 = .ok (.aload_n 0, 1) := by decide +kernel
theorem dX2_readKick_3 : decode cX2_readKick 3 = .ok (.getfield 12, 3) := by decide +kernel
theorem dX2_readKick_6 : decode cX2_readKick 6 = .ok (.getfield 111, 3) := by decide +kernel
theorem dX2_readKick_9 : decode cX2_readKick 9 = .ok (.iconst 1, 1) := by decide +kernel
theorem dX2_readKick_10 : decode cX2_readKick 10 = .ok (.isub, 1) := by decide +kernel
theorem dX2_readKick_11 : decode cX2_readKick 11 = .ok (.invokevirtual 97, 3) := by decide +kernel
theorem dX2_readKick_14 : decode cX2_readKick 14 = .ok (.istore_n 1, 1) := by decide +kernel
theorem dX2_readKick_15 : decode cX2_readKick 15 = .ok (.aload_n 0, 1) := by decide +kernel
theorem dX2_readKick_16 : decode cX2_readKick 16 = .ok (.getfield 12, 3) := by decide +kernel
theorem dX2_readKick_19 : decode cX2_readKick 19 = .ok (.iload_n 1, 1) := by decide +kernel
theorem dX2_readKick_20 : decode cX2_readKick 20 = .ok (.invokevirtual 125, 3) := by decide +kernel
theorem dX2_readKick_23 : decode cX2_readKick 23 = .ok (.ifCond .eq 12, 3) := by decide +kernel
theorem dX2_readKick_26 : decode cX2_readKick 26 = .ok (.aload_n 0, 1) := by decide +kernel
theorem dX2_readKick_27 : decode cX2_readKick 27 = .ok (.iconst 4, 1) := by decide +kernel
theorem dX2_readKick_28 : decode cX2_readKick 28 = .ok (.aload_n 0, 1) := by decide +kernel
theorem dX2_readKick_29 : decode cX2_readKick 29 = .ok (.getfield 84, 3) := by decide +kernel
theorem dX2_readKick_32 : decode cX2_readKick 32 = .ok (.invokevirtual 87, 3) := by decide +kernel
theorem dX2_readKick_35 : decode cX2_readKick 35 = .ok (.aload_n 0, 1) := by decide +kernel
theorem dX2_readKick_36 : decode cX2_readKick 36 = .ok (.invokevirtual 129, 3) := by decide +kernel
theorem dX2_readKick_39 : decode cX2_readKick 39 = .ok (.istore_n 2, 1) := by decide +kernel
theorem dX2_readKick_40 : decode cX2_readKick 40 = .ok (.aload_n 0, 1) := by decide +kernel
theorem dX2_readKick_41 : decode cX2_readKick 41 = .ok (.getfield 37, 3) := by decide +kernel
theorem dX2_readKick_44 : decode cX2_readKick 44 = .ok (.aload_n 0, 1) := by decide +kernel
theorem dX2_readKick_45 : decode cX2_readKick 45 = .ok (.getfield 84, 3) := by decide +kernel
theorem dX2_readKick_48 : decode cX2_readKick 48 = .ok (.isub, 1) := by decide +kernel
theorem dX2_readKick_49 : decode cX2_readKick 49 = .ok (.istore_n 3, 1) := by decide +kernel
theorem dX2_readKick_50 : decode cX2_readKick 50 = .ok (.aload_n 0, 1) := by decide +kernel
theorem dX2_readKick_51 : decode cX2_readKick 51 = .ok (.invokevirtual 101, 3) := by decide +kernel
theorem dX2_readKick_54 : decode cX2_readKick 54 = .ok (.aload_n 0, 1) := by decide +kernel
theorem dX2_readKick_55 : decode cX2_readKick 55 = .ok (.getfield 40, 3) := by decide +kernel
theorem dX2_readKick_58 : decode cX2_readKick 58 = .ok (.ifCond .ne 13, 3) := by decide +kernel
theorem dX2_readKick_61 : decode cX2_readKick 61 = .ok (.aload_n 0, 1) := by decide +kernel
theorem dX2_readKick_62 : decode cX2_readKick 62 = .ok (.getfield 12, 3) := by decide +kernel
theorem dX2_readKick_65 : decode cX2_readKick 65 = .ok (.iload_n 1, 1) := by decide +kernel
theorem dX2_readKick_66 : decode cX2_readKick 66 = .ok (.iload_n 2, 1) := by decide +kernel
theorem dX2_readKick_67 : decode cX2_readKick 67 = .ok (.iload_n 3, 1) := by decide +kernel
theorem dX2_readKick_68 : decode cX2_readKick 68 = .ok (.invokevirtual 133, 3) := by decide +kernel
theorem dX2_readKick_71 : decode cX2_readKick 71 = .ok (.return_, 1) := by decide +kernel
set_option maxRecDepth 20000 in
theorem ggX2_refuseSixth_X2_fail : GoodIn wsX2_refuseSixth wsX2_fail := goodIn_r _ [6, 7, 8, 9, 10, 11, 12, 13, 14, 15] (by decide +kernel) (by decide +kernel)
set_option maxRecDepth 20000 in
theorem gX2_refuseSixth_X2_fail : GoodIn wsX2_refuseSixth (wsV RX2 87 RX2 yX2_fail wsX2_fail) := goodIn_app (goodIn_of _ (by decide +kernel)) ggX2_refuseSixth_X2_fail
theorem dX2_refuseSixth_0 : decode cX2_refuseSixth 0 = .ok (.iload_n 1, 1) := by decide +kernel
theorem dX2_refuseSixth_1 : decode cX2_refuseSixth 1 = .ok (.iload_n 2, 1) := by decide +kernel
theorem dX2_refuseSixth_2 : decode cX2_refuseSixth 2 = .ok (.if_icmp .lt 12, 3) := by decide +kernel
theorem dX2_refuseSixth_5 : decode cX2_refuseSixth 5 = .ok (.aload_n 0, 1) := by decide +kernel
theorem dX2_refuseSixth_6 : decode cX2_refuseSixth 6 = .ok (.iconst 3, 1) := by decide +kernel
theorem dX2_refuseSixth_7 : decode cX2_refuseSixth 7 = .ok (.aload_n 0, 1) := by decide +kernel
theorem dX2_refuseSixth_8 : decode cX2_refuseSixth 8 = .ok (.getfield 84, 3) := by decide +kernel
theorem dX2_refuseSixth_11 : decode cX2_refuseSixth 11 = .ok (.invokevirtual 87, 3) := by decide +kernel
theorem dX2_refuseSixth_14 : decode cX2_refuseSixth 14 = .ok (.return_, 1) := by decide +kernel
theorem dX2_fail_0 : decode cX2_fail 0 = .ok (.aload_n 0, 1) := by decide +kernel
theorem dX2_fail_1 : decode cX2_fail 1 = .ok (.getfield 40, 3) := by decide +kernel
theorem dX2_fail_4 : decode cX2_fail 4 = .ok (.ifCond .ne 13, 3) := by decide +kernel
theorem dX2_fail_7 : decode cX2_fail 7 = .ok (.aload_n 0, 1) := by decide +kernel
theorem dX2_fail_8 : decode cX2_fail 8 = .ok (.iload_n 1, 1) := by decide +kernel
theorem dX2_fail_9 : decode cX2_fail 9 = .ok (.putfield 40, 3) := by decide +kernel
theorem dX2_fail_12 : decode cX2_fail 12 = .ok (.aload_n 0, 1) := by decide +kernel
theorem dX2_fail_13 : decode cX2_fail 13 = .ok (.iload_n 2, 1) := by decide +kernel
theorem dX2_fail_14 : decode cX2_fail 14 = .ok (.putfield 25, 3) := by decide +kernel
theorem dX2_fail_17 : decode cX2_fail 17 = .ok (.return_, 1) := by decide +kernel
set_option maxRecDepth 20000 in
theorem ggX2_skipBlanks_X5_byteAt : GoodIn wsX2_skipBlanks wsX5_byteAt := goodIn_r _ [7, 8, 9, 17, 18] (by decide +kernel) (by decide +kernel)
set_option maxRecDepth 20000 in
theorem gX2_skipBlanks_X5_byteAt : GoodIn wsX2_skipBlanks (wsV RX2 137 RX5 yX5_byteAt wsX5_byteAt) := goodIn_app (goodIn_of _ (by decide +kernel)) ggX2_skipBlanks_X5_byteAt
theorem dX2_skipBlanks_0 : decode cX2_skipBlanks 0 = .ok (.aload_n 0, 1) := by decide +kernel
theorem dX2_skipBlanks_1 : decode cX2_skipBlanks 1 = .ok (.getfield 37, 3) := by decide +kernel
theorem dX2_skipBlanks_4 : decode cX2_skipBlanks 4 = .ok (.aload_n 0, 1) := by decide +kernel
theorem dX2_skipBlanks_5 : decode cX2_skipBlanks 5 = .ok (.getfield 29, 3) := by decide +kernel
theorem dX2_skipBlanks_8 : decode cX2_skipBlanks 8 = .ok (.getfield 46, 3) := by decide +kernel
theorem dX2_skipBlanks_11 : decode cX2_skipBlanks 11 = .ok (.if_icmp .ge 32, 3) := by decide +kernel
theorem dX2_skipBlanks_14 : decode cX2_skipBlanks 14 = .ok (.aload_n 0, 1) := by decide +kernel
theorem dX2_skipBlanks_15 : decode cX2_skipBlanks 15 = .ok (.getfield 29, 3) := by decide +kernel
theorem dX2_skipBlanks_18 : decode cX2_skipBlanks 18 = .ok (.aload_n 0, 1) := by decide +kernel
theorem dX2_skipBlanks_19 : decode cX2_skipBlanks 19 = .ok (.getfield 37, 3) := by decide +kernel
theorem dX2_skipBlanks_22 : decode cX2_skipBlanks 22 = .ok (.invokevirtual 137, 3) := by decide +kernel
theorem dX2_skipBlanks_25 : decode cX2_skipBlanks 25 = .ok (.bipush 32, 2) := by decide +kernel
theorem dX2_skipBlanks_27 : decode cX2_skipBlanks 27 = .ok (.if_icmp .ne 16, 3) := by decide +kernel
theorem dX2_skipBlanks_30 : decode cX2_skipBlanks 30 = .ok (.aload_n 0, 1) := by decide +kernel
theorem dX2_skipBlanks_31 : decode cX2_skipBlanks 31 = .ok (.dup, 1) := by decide +kernel
theorem dX2_skipBlanks_32 : decode cX2_skipBlanks 32 = .ok (.getfield 37, 3) := by decide +kernel
theorem dX2_skipBlanks_35 : decode cX2_skipBlanks 35 = .ok (.iconst 1, 1) := by decide +kernel
theorem dX2_skipBlanks_36 : decode cX2_skipBlanks 36 = .ok (.iadd, 1) := by decide +kernel
theorem dX2_skipBlanks_37 : decode cX2_skipBlanks 37 = .ok (.putfield 37, 3) := by decide +kernel
theorem dX2_skipBlanks_40 : decode cX2_skipBlanks 40 = .ok (.goto (-40), 3) := by decide +kernel
theorem dX2_skipBlanks_43 : decode cX2_skipBlanks 43 = .ok (.return_, 1) := by decide +kernel
set_option maxRecDepth 20000 in
theorem ggX2_takeWord_X2_skipBlanks : GoodIn wsX2_takeWord wsX2_skipBlanks := goodIn_r _ [8, 1, 3, 9, 10, 11, 12, 13, 14, 15, 21, 22, 23, 24, 25, 26, 27, 28, 29] (by decide +kernel) (by decide +kernel)
set_option maxRecDepth 20000 in
theorem gX2_takeWord_X2_skipBlanks : GoodIn wsX2_takeWord (wsV RX2 43 RX2 yX2_skipBlanks wsX2_skipBlanks) := goodIn_app (goodIn_of _ (by decide +kernel)) ggX2_takeWord_X2_skipBlanks
set_option maxRecDepth 20000 in
theorem ggX2_takeWord_X5_isLetter : GoodIn wsX2_takeWord wsX5_isLetter := goodIn_r _ [19, 20, 10, 11, 12, 13, 14, 15, 28, 29] (by decide +kernel) (by decide +kernel)
set_option maxRecDepth 20000 in
theorem gX2_takeWord_X5_isLetter : GoodIn wsX2_takeWord (wsV RX2 141 RX5 yX5_isLetter wsX5_isLetter) := goodIn_app (goodIn_of _ (by decide +kernel)) ggX2_takeWord_X5_isLetter
theorem dX2_takeWord_0 : decode cX2_takeWord 0 = .ok (.aload_n 0, 1) := by decide +kernel
theorem dX2_takeWord_1 : decode cX2_takeWord 1 = .ok (.invokevirtual 43, 3) := by decide +kernel
theorem dX2_takeWord_4 : decode cX2_takeWord 4 = .ok (.aload_n 0, 1) := by decide +kernel
theorem dX2_takeWord_5 : decode cX2_takeWord 5 = .ok (.aload_n 0, 1) := by decide +kernel
theorem dX2_takeWord_6 : decode cX2_takeWord 6 = .ok (.getfield 37, 3) := by decide +kernel
theorem dX2_takeWord_9 : decode cX2_takeWord 9 = .ok (.putfield 84, 3) := by decide +kernel
theorem dX2_takeWord_12 : decode cX2_takeWord 12 = .ok (.aload_n 0, 1) := by decide +kernel
theorem dX2_takeWord_13 : decode cX2_takeWord 13 = .ok (.getfield 37, 3) := by decide +kernel
theorem dX2_takeWord_16 : decode cX2_takeWord 16 = .ok (.aload_n 0, 1) := by decide +kernel
theorem dX2_takeWord_17 : decode cX2_takeWord 17 = .ok (.getfield 29, 3) := by decide +kernel
theorem dX2_takeWord_20 : decode cX2_takeWord 20 = .ok (.getfield 46, 3) := by decide +kernel
theorem dX2_takeWord_23 : decode cX2_takeWord 23 = .ok (.if_icmp .ge 30, 3) := by decide +kernel
theorem dX2_takeWord_26 : decode cX2_takeWord 26 = .ok (.aload_n 0, 1) := by decide +kernel
theorem dX2_takeWord_27 : decode cX2_takeWord 27 = .ok (.getfield 29, 3) := by decide +kernel
theorem dX2_takeWord_30 : decode cX2_takeWord 30 = .ok (.aload_n 0, 1) := by decide +kernel
theorem dX2_takeWord_31 : decode cX2_takeWord 31 = .ok (.getfield 37, 3) := by decide +kernel
theorem dX2_takeWord_34 : decode cX2_takeWord 34 = .ok (.invokevirtual 141, 3) := by decide +kernel
theorem dX2_takeWord_37 : decode cX2_takeWord 37 = .ok (.ifCond .eq 16, 3) := by decide +kernel
theorem dX2_takeWord_40 : decode cX2_takeWord 40 = .ok (.aload_n 0, 1) := by decide +kernel
theorem dX2_takeWord_41 : decode cX2_takeWord 41 = .ok (.dup, 1) := by decide +kernel
theorem dX2_takeWord_42 : decode cX2_takeWord 42 = .ok (.getfield 37, 3) := by decide +kernel
theorem dX2_takeWord_45 : decode cX2_takeWord 45 = .ok (.iconst 1, 1) := by decide +kernel
theorem dX2_takeWord_46 : decode cX2_takeWord 46 = .ok (.iadd, 1) := by decide +kernel
theorem dX2_takeWord_47 : decode cX2_takeWord 47 = .ok (.putfield 37, 3) := by decide +kernel
theorem dX2_takeWord_50 : decode cX2_takeWord 50 = .ok (.goto (-38), 3) := by decide +kernel
theorem dX2_takeWord_53 : decode cX2_takeWord 53 = .ok (.return_, 1) := by decide +kernel
set_option maxRecDepth 20000 in
theorem ggX2_wordIs_J0_length_8abf5 : GoodIn wsX2_wordIs wsJ0_length_8abf5 := goodIn_r _ [8, 9, 10, 11, 12, 7, 13, 14, 15] (by decide +kernel) (by decide +kernel)
set_option maxRecDepth 20000 in
theorem gX2_wordIs_J0_length_8abf5 : GoodIn wsX2_wordIs (wsV RX2 144 RJ0 yJ0_length_8abf5 wsJ0_length_8abf5) := goodIn_app (goodIn_of _ (by decide +kernel)) ggX2_wordIs_J0_length_8abf5
set_option maxRecDepth 20000 in
theorem ggX2_wordIs_X5_byteAt : GoodIn wsX2_wordIs wsX5_byteAt := goodIn_r _ [20, 21, 22, 67, 68] (by decide +kernel) (by decide +kernel)
set_option maxRecDepth 20000 in
theorem gX2_wordIs_X5_byteAt : GoodIn wsX2_wordIs (wsV RX2 137 RX5 yX5_byteAt wsX5_byteAt) := goodIn_app (goodIn_of _ (by decide +kernel)) ggX2_wordIs_X5_byteAt
set_option maxRecDepth 20000 in
theorem ggX2_wordIs_J0_charAt_5068e : GoodIn wsX2_wordIs wsJ0_charAt_5068e := goodIn_r _ [26, 9, 27, 28, 29, 7, 30, 14, 15, 31, 32, 33, 34, 35, 36, 37, 38, 39, 40, 41, 42, 43, 44, 45, 46, 47, 48, 49, 50, 51, 52, 53, 54, 55, 56, 57, 58, 59] (by decide +kernel) (by decide +kernel)
set_option maxRecDepth 20000 in
theorem gX2_wordIs_J0_charAt_5068e : GoodIn wsX2_wordIs (wsV RX2 148 RJ0 yJ0_charAt_5068e wsJ0_charAt_5068e) := goodIn_app (goodIn_of _ (by decide +kernel)) ggX2_wordIs_J0_charAt_5068e
theorem dX2_wordIs_0 : decode cX2_wordIs 0 = .ok (.aload_n 0, 1) := by decide +kernel
theorem dX2_wordIs_1 : decode cX2_wordIs 1 = .ok (.getfield 37, 3) := by decide +kernel
theorem dX2_wordIs_4 : decode cX2_wordIs 4 = .ok (.aload_n 0, 1) := by decide +kernel
theorem dX2_wordIs_5 : decode cX2_wordIs 5 = .ok (.getfield 84, 3) := by decide +kernel
theorem dX2_wordIs_8 : decode cX2_wordIs 8 = .ok (.isub, 1) := by decide +kernel
theorem dX2_wordIs_9 : decode cX2_wordIs 9 = .ok (.aload_n 1, 1) := by decide +kernel
theorem dX2_wordIs_10 : decode cX2_wordIs 10 = .ok (.invokevirtual 144, 3) := by decide +kernel
theorem dX2_wordIs_13 : decode cX2_wordIs 13 = .ok (.if_icmp .eq 5, 3) := by decide +kernel
theorem dX2_wordIs_16 : decode cX2_wordIs 16 = .ok (.iconst 0, 1) := by decide +kernel
theorem dX2_wordIs_17 : decode cX2_wordIs 17 = .ok (.ireturn, 1) := by decide +kernel
theorem dX2_wordIs_18 : decode cX2_wordIs 18 = .ok (.iconst 0, 1) := by decide +kernel
theorem dX2_wordIs_19 : decode cX2_wordIs 19 = .ok (.istore_n 2, 1) := by decide +kernel
theorem dX2_wordIs_20 : decode cX2_wordIs 20 = .ok (.iload_n 2, 1) := by decide +kernel
theorem dX2_wordIs_21 : decode cX2_wordIs 21 = .ok (.aload_n 1, 1) := by decide +kernel
theorem dX2_wordIs_22 : decode cX2_wordIs 22 = .ok (.invokevirtual 144, 3) := by decide +kernel
theorem dX2_wordIs_25 : decode cX2_wordIs 25 = .ok (.if_icmp .ge 32, 3) := by decide +kernel
theorem dX2_wordIs_28 : decode cX2_wordIs 28 = .ok (.aload_n 0, 1) := by decide +kernel
theorem dX2_wordIs_29 : decode cX2_wordIs 29 = .ok (.getfield 29, 3) := by decide +kernel
theorem dX2_wordIs_32 : decode cX2_wordIs 32 = .ok (.aload_n 0, 1) := by decide +kernel
theorem dX2_wordIs_33 : decode cX2_wordIs 33 = .ok (.getfield 84, 3) := by decide +kernel
theorem dX2_wordIs_36 : decode cX2_wordIs 36 = .ok (.iload_n 2, 1) := by decide +kernel
theorem dX2_wordIs_37 : decode cX2_wordIs 37 = .ok (.iadd, 1) := by decide +kernel
theorem dX2_wordIs_38 : decode cX2_wordIs 38 = .ok (.invokevirtual 137, 3) := by decide +kernel
theorem dX2_wordIs_41 : decode cX2_wordIs 41 = .ok (.aload_n 1, 1) := by decide +kernel
theorem dX2_wordIs_42 : decode cX2_wordIs 42 = .ok (.iload_n 2, 1) := by decide +kernel
theorem dX2_wordIs_43 : decode cX2_wordIs 43 = .ok (.invokevirtual 148, 3) := by decide +kernel
theorem dX2_wordIs_46 : decode cX2_wordIs 46 = .ok (.if_icmp .eq 5, 3) := by decide +kernel
theorem dX2_wordIs_49 : decode cX2_wordIs 49 = .ok (.iconst 0, 1) := by decide +kernel
theorem dX2_wordIs_50 : decode cX2_wordIs 50 = .ok (.ireturn, 1) := by decide +kernel
theorem dX2_wordIs_51 : decode cX2_wordIs 51 = .ok (.iinc 2 1, 3) := by decide +kernel
theorem dX2_wordIs_54 : decode cX2_wordIs 54 = .ok (.goto (-34), 3) := by decide +kernel
theorem dX2_wordIs_57 : decode cX2_wordIs 57 = .ok (.iconst 1, 1) := by decide +kernel
theorem dX2_wordIs_58 : decode cX2_wordIs 58 = .ok (.ireturn, 1) := by decide +kernel
set_option maxRecDepth 20000 in
theorem ggX2_takeNumber_X2_skipBlanks : GoodIn wsX2_takeNumber wsX2_skipBlanks := goodIn_r _ [13, 2, 4, 14, 15, 16, 17, 18, 19, 20, 31, 32, 33, 34, 35, 36, 37, 38, 39] (by decide +kernel) (by decide +kernel)
set_option maxRecDepth 20000 in
theorem gX2_takeNumber_X2_skipBlanks : GoodIn wsX2_takeNumber (wsV RX2 43 RX2 yX2_skipBlanks wsX2_skipBlanks) := goodIn_app (goodIn_of _ (by decide +kernel)) ggX2_takeNumber_X2_skipBlanks
set_option maxRecDepth 20000 in
theorem ggX2_takeNumber_X5_isFigure : GoodIn wsX2_takeNumber wsX5_isFigure := goodIn_r _ [24, 25, 15, 16, 17, 18, 19, 20, 38, 39] (by decide +kernel) (by decide +kernel)
set_option maxRecDepth 20000 in
theorem gX2_takeNumber_X5_isFigure : GoodIn wsX2_takeNumber (wsV RX2 152 RX5 yX5_isFigure wsX5_isFigure) := goodIn_app (goodIn_of _ (by decide +kernel)) ggX2_takeNumber_X5_isFigure
set_option maxRecDepth 20000 in
theorem ggX2_takeNumber_X5_byteAt : GoodIn wsX2_takeNumber wsX5_byteAt := goodIn_r _ [18, 19, 20, 38, 39] (by decide +kernel) (by decide +kernel)
set_option maxRecDepth 20000 in
theorem gX2_takeNumber_X5_byteAt : GoodIn wsX2_takeNumber (wsV RX2 137 RX5 yX5_byteAt wsX5_byteAt) := goodIn_app (goodIn_of _ (by decide +kernel)) ggX2_takeNumber_X5_byteAt
set_option maxRecDepth 20000 in
theorem ggX2_takeNumber_X2_fail : GoodIn wsX2_takeNumber wsX2_fail := goodIn_r _ [29, 1, 30, 31, 32, 33, 34, 35, 36, 37] (by decide +kernel) (by decide +kernel)
set_option maxRecDepth 20000 in
theorem gX2_takeNumber_X2_fail : GoodIn wsX2_takeNumber (wsV RX2 87 RX2 yX2_fail wsX2_fail) := goodIn_app (goodIn_of _ (by decide +kernel)) ggX2_takeNumber_X2_fail
theorem dX2_takeNumber_0 : decode cX2_takeNumber 0 = .ok (.aload_n 0, 1) := by decide +kernel
theorem dX2_takeNumber_1 : decode cX2_takeNumber 1 = .ok (.getfield 40, 3) := by decide +kernel
theorem dX2_takeNumber_4 : decode cX2_takeNumber 4 = .ok (.ifCond .eq 5, 3) := by decide +kernel
theorem dX2_takeNumber_7 : decode cX2_takeNumber 7 = .ok (.iconst 0, 1) := by decide +kernel
theorem dX2_takeNumber_8 : decode cX2_takeNumber 8 = .ok (.ireturn, 1) := by decide +kernel
theorem dX2_takeNumber_9 : decode cX2_takeNumber 9 = .ok (.aload_n 0, 1) := by decide +kernel
theorem dX2_takeNumber_10 : decode cX2_takeNumber 10 = .ok (.invokevirtual 43, 3) := by decide +kernel
theorem dX2_takeNumber_13 : decode cX2_takeNumber 13 = .ok (.aload_n 0, 1) := by decide +kernel
theorem dX2_takeNumber_14 : decode cX2_takeNumber 14 = .ok (.aload_n 0, 1) := by decide +kernel
theorem dX2_takeNumber_15 : decode cX2_takeNumber 15 = .ok (.getfield 37, 3) := by decide +kernel
theorem dX2_takeNumber_18 : decode cX2_takeNumber 18 = .ok (.putfield 84, 3) := by decide +kernel
theorem dX2_takeNumber_21 : decode cX2_takeNumber 21 = .ok (.iconst 0, 1) := by decide +kernel
theorem dX2_takeNumber_22 : decode cX2_takeNumber 22 = .ok (.istore_n 3, 1) := by decide +kernel
theorem dX2_takeNumber_23 : decode cX2_takeNumber 23 = .ok (.aload_n 0, 1) := by decide +kernel
theorem dX2_takeNumber_24 : decode cX2_takeNumber 24 = .ok (.getfield 37, 3) := by decide +kernel
theorem dX2_takeNumber_27 : decode cX2_takeNumber 27 = .ok (.aload_n 0, 1) := by decide +kernel
theorem dX2_takeNumber_28 : decode cX2_takeNumber 28 = .ok (.getfield 29, 3) := by decide +kernel
theorem dX2_takeNumber_31 : decode cX2_takeNumber 31 = .ok (.getfield 46, 3) := by decide +kernel
theorem dX2_takeNumber_34 : decode cX2_takeNumber 34 = .ok (.if_icmp .ge 56, 3) := by decide +kernel
theorem dX2_takeNumber_37 : decode cX2_takeNumber 37 = .ok (.aload_n 0, 1) := by decide +kernel
theorem dX2_takeNumber_38 : decode cX2_takeNumber 38 = .ok (.getfield 29, 3) := by decide +kernel
theorem dX2_takeNumber_41 : decode cX2_takeNumber 41 = .ok (.aload_n 0, 1) := by decide +kernel
theorem dX2_takeNumber_42 : decode cX2_takeNumber 42 = .ok (.getfield 37, 3) := by decide +kernel
theorem dX2_takeNumber_45 : decode cX2_takeNumber 45 = .ok (.invokevirtual 152, 3) := by decide +kernel
theorem dX2_takeNumber_48 : decode cX2_takeNumber 48 = .ok (.ifCond .eq 42, 3) := by decide +kernel
theorem dX2_takeNumber_51 : decode cX2_takeNumber 51 = .ok (.sipush 1000, 3) := by decide +kernel
theorem dX2_takeNumber_54 : decode cX2_takeNumber 54 = .ok (.bipush 10, 2) := by decide +kernel
theorem dX2_takeNumber_56 : decode cX2_takeNumber 56 = .ok (.iload_n 3, 1) := by decide +kernel
theorem dX2_takeNumber_57 : decode cX2_takeNumber 57 = .ok (.imul, 1) := by decide +kernel
theorem dX2_takeNumber_58 : decode cX2_takeNumber 58 = .ok (.aload_n 0, 1) := by decide +kernel
theorem dX2_takeNumber_59 : decode cX2_takeNumber 59 = .ok (.getfield 29, 3) := by decide +kernel
theorem dX2_takeNumber_62 : decode cX2_takeNumber 62 = .ok (.aload_n 0, 1) := by decide +kernel
theorem dX2_takeNumber_63 : decode cX2_takeNumber 63 = .ok (.getfield 37, 3) := by decide +kernel
theorem dX2_takeNumber_66 : decode cX2_takeNumber 66 = .ok (.invokevirtual 137, 3) := by decide +kernel
theorem dX2_takeNumber_69 : decode cX2_takeNumber 69 = .ok (.iadd, 1) := by decide +kernel
theorem dX2_takeNumber_70 : decode cX2_takeNumber 70 = .ok (.bipush 48, 2) := by decide +kernel
theorem dX2_takeNumber_72 : decode cX2_takeNumber 72 = .ok (.isub, 1) := by decide +kernel
theorem dX2_takeNumber_73 : decode cX2_takeNumber 73 = .ok (.invokestatic 155, 3) := by decide +kernel
theorem dX2_takeNumber_76 : decode cX2_takeNumber 76 = .ok (.istore_n 3, 1) := by decide +kernel
theorem dX2_takeNumber_77 : decode cX2_takeNumber 77 = .ok (.aload_n 0, 1) := by decide +kernel
theorem dX2_takeNumber_78 : decode cX2_takeNumber 78 = .ok (.dup, 1) := by decide +kernel
theorem dX2_takeNumber_79 : decode cX2_takeNumber 79 = .ok (.getfield 37, 3) := by decide +kernel
theorem dX2_takeNumber_82 : decode cX2_takeNumber 82 = .ok (.iconst 1, 1) := by decide +kernel
theorem dX2_takeNumber_83 : decode cX2_takeNumber 83 = .ok (.iadd, 1) := by decide +kernel
theorem dX2_takeNumber_84 : decode cX2_takeNumber 84 = .ok (.putfield 37, 3) := by decide +kernel
theorem dX2_takeNumber_87 : decode cX2_takeNumber 87 = .ok (.goto (-64), 3) := by decide +kernel
theorem dX2_takeNumber_90 : decode cX2_takeNumber 90 = .ok (.aload_n 0, 1) := by decide +kernel
theorem dX2_takeNumber_91 : decode cX2_takeNumber 91 = .ok (.getfield 37, 3) := by decide +kernel
theorem dX2_takeNumber_94 : decode cX2_takeNumber 94 = .ok (.aload_n 0, 1) := by decide +kernel
theorem dX2_takeNumber_95 : decode cX2_takeNumber 95 = .ok (.getfield 84, 3) := by decide +kernel
theorem dX2_takeNumber_98 : decode cX2_takeNumber 98 = .ok (.if_icmp .ne 15, 3) := by decide +kernel
theorem dX2_takeNumber_101 : decode cX2_takeNumber 101 = .ok (.aload_n 0, 1) := by decide +kernel
theorem dX2_takeNumber_102 : decode cX2_takeNumber 102 = .ok (.iconst 1, 1) := by decide +kernel
theorem dX2_takeNumber_103 : decode cX2_takeNumber 103 = .ok (.aload_n 0, 1) := by decide +kernel
theorem dX2_takeNumber_104 : decode cX2_takeNumber 104 = .ok (.getfield 84, 3) := by decide +kernel
theorem dX2_takeNumber_107 : decode cX2_takeNumber 107 = .ok (.invokevirtual 87, 3) := by decide +kernel
theorem dX2_takeNumber_110 : decode cX2_takeNumber 110 = .ok (.goto 35, 3) := by decide +kernel
theorem dX2_takeNumber_113 : decode cX2_takeNumber 113 = .ok (.aload_n 0, 1) := by decide +kernel
theorem dX2_takeNumber_114 : decode cX2_takeNumber 114 = .ok (.getfield 37, 3) := by decide +kernel
theorem dX2_takeNumber_117 : decode cX2_takeNumber 117 = .ok (.aload_n 0, 1) := by decide +kernel
theorem dX2_takeNumber_118 : decode cX2_takeNumber 118 = .ok (.getfield 84, 3) := by decide +kernel
theorem dX2_takeNumber_121 : decode cX2_takeNumber 121 = .ok (.isub, 1) := by decide +kernel
theorem dX2_takeNumber_122 : decode cX2_takeNumber 122 = .ok (.iconst 3, 1) := by decide +kernel
theorem dX2_takeNumber_123 : decode cX2_takeNumber 123 = .ok (.if_icmp .gt 13, 3) := by decide +kernel
theorem dX2_takeNumber_126 : decode cX2_takeNumber 126 = .ok (.iload_n 3, 1) := by decide +kernel
theorem dX2_takeNumber_127 : decode cX2_takeNumber 127 = .ok (.iload_n 1, 1) := by decide +kernel
theorem dX2_takeNumber_128 : decode cX2_takeNumber 128 = .ok (.if_icmp .lt 8, 3) := by decide +kernel
theorem dX2_takeNumber_131 : decode cX2_takeNumber 131 = .ok (.iload_n 3, 1) := by decide +kernel
theorem dX2_takeNumber_132 : decode cX2_takeNumber 132 = .ok (.iload_n 2, 1) := by decide +kernel
