theorem dX1_kindsWithin_0 : decode cX1_kindsWithin 0 = .ok (.iconst 0, 1) := by decide +kernel
theorem dX1_kindsWithin_1 : decode cX1_kindsWithin 1 = .ok (.istore 4, 2) := by decide +kernel
theorem dX1_kindsWithin_3 : decode cX1_kindsWithin 3 = .ok (.iconst 0, 1) := by decide +kernel
theorem dX1_kindsWithin_4 : decode cX1_kindsWithin 4 = .ok (.istore 5, 2) := by decide +kernel
theorem dX1_kindsWithin_6 : decode cX1_kindsWithin 6 = .ok (.iload 5, 2) := by decide +kernel
theorem dX1_kindsWithin_8 : decode cX1_kindsWithin 8 = .ok (.aload_n 0, 1) := by decide +kernel
theorem dX1_kindsWithin_9 : decode cX1_kindsWithin 9 = .ok (.getfield 30, 3) := by decide +kernel
theorem dX1_kindsWithin_12 : decode cX1_kindsWithin 12 = .ok (.if_icmp .ge 40, 3) := by decide +kernel
theorem dX1_kindsWithin_15 : decode cX1_kindsWithin 15 = .ok (.aload_n 0, 1) := by decide +kernel
theorem dX1_kindsWithin_16 : decode cX1_kindsWithin 16 = .ok (.aload_n 1, 1) := by decide +kernel
theorem dX1_kindsWithin_17 : decode cX1_kindsWithin 17 = .ok (.iload 5, 2) := by decide +kernel
theorem dX1_kindsWithin_19 : decode cX1_kindsWithin 19 = .ok (.invokevirtual 49, 3) := by decide +kernel
theorem dX1_kindsWithin_22 : decode cX1_kindsWithin 22 = .ok (.iload_n 2, 1) := by decide +kernel
theorem dX1_kindsWithin_23 : decode cX1_kindsWithin 23 = .ok (.if_icmp .lt 23, 3) := by decide +kernel
theorem dX1_kindsWithin_26 : decode cX1_kindsWithin 26 = .ok (.aload_n 0, 1) := by decide +kernel
theorem dX1_kindsWithin_27 : decode cX1_kindsWithin 27 = .ok (.aload_n 1, 1) := by decide +kernel
theorem dX1_kindsWithin_28 : decode cX1_kindsWithin 28 = .ok (.iload 5, 2) := by decide +kernel
theorem dX1_kindsWithin_30 : decode cX1_kindsWithin 30 = .ok (.invokevirtual 49, 3) := by decide +kernel
theorem dX1_kindsWithin_33 : decode cX1_kindsWithin 33 = .ok (.iload_n 3, 1) := by decide +kernel
theorem dX1_kindsWithin_34 : decode cX1_kindsWithin 34 = .ok (.if_icmp .gt 12, 3) := by decide +kernel
theorem dX1_kindsWithin_37 : decode cX1_kindsWithin 37 = .ok (.iload 4, 2) := by decide +kernel
theorem dX1_kindsWithin_39 : decode cX1_kindsWithin 39 = .ok (.iconst 1, 1) := by decide +kernel
theorem dX1_kindsWithin_40 : decode cX1_kindsWithin 40 = .ok (.iload 5, 2) := by decide +kernel
theorem dX1_kindsWithin_42 : decode cX1_kindsWithin 42 = .ok (.ishl, 1) := by decide +kernel
theorem dX1_kindsWithin_43 : decode cX1_kindsWithin 43 = .ok (.ior, 1) := by decide +kernel
theorem dX1_kindsWithin_44 : decode cX1_kindsWithin 44 = .ok (.istore 4, 2) := by decide +kernel
theorem dX1_kindsWithin_46 : decode cX1_kindsWithin 46 = .ok (.iinc 5 1, 3) := by decide +kernel
theorem dX1_kindsWithin_49 : decode cX1_kindsWithin 49 = .ok (.goto (-43), 3) := by decide +kernel
theorem dX1_kindsWithin_52 : decode cX1_kindsWithin 52 = .ok (.iload 4, 2) := by decide +kernel
theorem dX1_kindsWithin_54 : decode cX1_kindsWithin 54 = .ok (.ireturn, 1) := by decide +kernel
theorem dX1_slugsWithin_0 : decode cX1_slugsWithin 0 = .ok (.iconst 0, 1) := by decide +kernel
theorem dX1_slugsWithin_1 : decode cX1_slugsWithin 1 = .ok (.istore_n 3, 1) := by decide +kernel
theorem dX1_slugsWithin_2 : decode cX1_slugsWithin 2 = .ok (.iconst 0, 1) := by decide +kernel
theorem dX1_slugsWithin_3 : decode cX1_slugsWithin 3 = .ok (.istore 4, 2) := by decide +kernel
theorem dX1_slugsWithin_5 : decode cX1_slugsWithin 5 = .ok (.iload 4, 2) := by decide +kernel
theorem dX1_slugsWithin_7 : decode cX1_slugsWithin 7 = .ok (.aload_n 0, 1) := by decide +kernel
theorem dX1_slugsWithin_8 : decode cX1_slugsWithin 8 = .ok (.getfield 37, 3) := by decide +kernel
theorem dX1_slugsWithin_11 : decode cX1_slugsWithin 11 = .ok (.if_icmp .ge 38, 3) := by decide +kernel
theorem dX1_slugsWithin_14 : decode cX1_slugsWithin 14 = .ok (.aload_n 0, 1) := by decide +kernel
theorem dX1_slugsWithin_15 : decode cX1_slugsWithin 15 = .ok (.getfield 18, 3) := by decide +kernel
theorem dX1_slugsWithin_18 : decode cX1_slugsWithin 18 = .ok (.iload 4, 2) := by decide +kernel
theorem dX1_slugsWithin_20 : decode cX1_slugsWithin 20 = .ok (.iaload, 1) := by decide +kernel
theorem dX1_slugsWithin_21 : decode cX1_slugsWithin 21 = .ok (.iload_n 1, 1) := by decide +kernel
theorem dX1_slugsWithin_22 : decode cX1_slugsWithin 22 = .ok (.if_icmp .lt 21, 3) := by decide +kernel
theorem dX1_slugsWithin_25 : decode cX1_slugsWithin 25 = .ok (.aload_n 0, 1) := by decide +kernel
theorem dX1_slugsWithin_26 : decode cX1_slugsWithin 26 = .ok (.getfield 18, 3) := by decide +kernel
theorem dX1_slugsWithin_29 : decode cX1_slugsWithin 29 = .ok (.iload 4, 2) := by decide +kernel
theorem dX1_slugsWithin_31 : decode cX1_slugsWithin 31 = .ok (.iaload, 1) := by decide +kernel
theorem dX1_slugsWithin_32 : decode cX1_slugsWithin 32 = .ok (.iload_n 2, 1) := by decide +kernel
theorem dX1_slugsWithin_33 : decode cX1_slugsWithin 33 = .ok (.if_icmp .gt 10, 3) := by decide +kernel
theorem dX1_slugsWithin_36 : decode cX1_slugsWithin 36 = .ok (.iload_n 3, 1) := by decide +kernel
theorem dX1_slugsWithin_37 : decode cX1_slugsWithin 37 = .ok (.iconst 1, 1) := by decide +kernel
theorem dX1_slugsWithin_38 : decode cX1_slugsWithin 38 = .ok (.iload 4, 2) := by decide +kernel
theorem dX1_slugsWithin_40 : decode cX1_slugsWithin 40 = .ok (.ishl, 1) := by decide +kernel
theorem dX1_slugsWithin_41 : decode cX1_slugsWithin 41 = .ok (.ior, 1) := by decide +kernel
theorem dX1_slugsWithin_42 : decode cX1_slugsWithin 42 = .ok (.istore_n 3, 1) := by decide +kernel
theorem dX1_slugsWithin_43 : decode cX1_slugsWithin 43 = .ok (.iinc 4 1, 3) := by decide +kernel
theorem dX1_slugsWithin_46 : decode cX1_slugsWithin 46 = .ok (.goto (-41), 3) := by decide +kernel
theorem dX1_slugsWithin_49 : decode cX1_slugsWithin 49 = .ok (.iload_n 3, 1) := by decide +kernel
theorem dX1_slugsWithin_50 : decode cX1_slugsWithin 50 = .ok (.ireturn, 1) := by decide +kernel
theorem dX1_valueOfTubes_0 : decode cX1_valueOfTubes 0 = .ok (.iconst 0, 1) := by decide +kernel
theorem dX1_valueOfTubes_1 : decode cX1_valueOfTubes 1 = .ok (.istore_n 2, 1) := by decide +kernel
theorem dX1_valueOfTubes_2 : decode cX1_valueOfTubes 2 = .ok (.iconst 0, 1) := by decide +kernel
theorem dX1_valueOfTubes_3 : decode cX1_valueOfTubes 3 = .ok (.istore_n 3, 1) := by decide +kernel
theorem dX1_valueOfTubes_4 : decode cX1_valueOfTubes 4 = .ok (.iload_n 3, 1) := by decide +kernel
theorem dX1_valueOfTubes_5 : decode cX1_valueOfTubes 5 = .ok (.aload_n 0, 1) := by decide +kernel
theorem dX1_valueOfTubes_6 : decode cX1_valueOfTubes 6 = .ok (.getfield 30, 3) := by decide +kernel
theorem dX1_valueOfTubes_9 : decode cX1_valueOfTubes 9 = .ok (.if_icmp .ge 25, 3) := by decide +kernel
theorem dX1_valueOfTubes_12 : decode cX1_valueOfTubes 12 = .ok (.iload_n 2, 1) := by decide +kernel
theorem dX1_valueOfTubes_13 : decode cX1_valueOfTubes 13 = .ok (.aload_n 0, 1) := by decide +kernel
theorem dX1_valueOfTubes_14 : decode cX1_valueOfTubes 14 = .ok (.getfield 9, 3) := by decide +kernel
theorem dX1_valueOfTubes_17 : decode cX1_valueOfTubes 17 = .ok (.iload_n 3, 1) := by decide +kernel
theorem dX1_valueOfTubes_18 : decode cX1_valueOfTubes 18 = .ok (.iaload, 1) := by decide +kernel
theorem dX1_valueOfTubes_19 : decode cX1_valueOfTubes 19 = .ok (.aload_n 1, 1) := by decide +kernel
theorem dX1_valueOfTubes_20 : decode cX1_valueOfTubes 20 = .ok (.getfield 63, 3) := by decide +kernel
theorem dX1_valueOfTubes_23 : decode cX1_valueOfTubes 23 = .ok (.iload_n 3, 1) := by decide +kernel
theorem dX1_valueOfTubes_24 : decode cX1_valueOfTubes 24 = .ok (.iaload, 1) := by decide +kernel
theorem dX1_valueOfTubes_25 : decode cX1_valueOfTubes 25 = .ok (.imul, 1) := by decide +kernel
theorem dX1_valueOfTubes_26 : decode cX1_valueOfTubes 26 = .ok (.iadd, 1) := by decide +kernel
theorem dX1_valueOfTubes_27 : decode cX1_valueOfTubes 27 = .ok (.istore_n 2, 1) := by decide +kernel
theorem dX1_valueOfTubes_28 : decode cX1_valueOfTubes 28 = .ok (.iinc 3 1, 3) := by decide +kernel
theorem dX1_valueOfTubes_31 : decode cX1_valueOfTubes 31 = .ok (.goto (-27), 3) := by decide +kernel
theorem dX1_valueOfTubes_34 : decode cX1_valueOfTubes 34 = .ok (.iload_n 2, 1) := by decide +kernel
theorem dX1_valueOfTubes_35 : decode cX1_valueOfTubes 35 = .ok (.ireturn, 1) := by decide +kernel
theorem dX1_isRhythm_0 : decode cX1_isRhythm 0 = .ok (.aload_n 0, 1) := by decide +kernel
theorem dX1_isRhythm_1 : decode cX1_isRhythm 1 = .ok (.getfield 24, 3) := by decide +kernel
theorem dX1_isRhythm_4 : decode cX1_isRhythm 4 = .ok (.iload_n 1, 1) := by decide +kernel
theorem dX1_isRhythm_5 : decode cX1_isRhythm 5 = .ok (.iaload, 1) := by decide +kernel
theorem dX1_isRhythm_6 : decode cX1_isRhythm 6 = .ok (.istore 4, 2) := by decide +kernel
theorem dX1_isRhythm_8 : decode cX1_isRhythm 8 = .ok (.iload_n 3, 1) := by decide +kernel
theorem dX1_isRhythm_9 : decode cX1_isRhythm 9 = .ok (.iload 4, 2) := by decide +kernel
theorem dX1_isRhythm_11 : decode cX1_isRhythm 11 = .ok (.if_icmp .lt 24, 3) := by decide +kernel
theorem dX1_isRhythm_14 : decode cX1_isRhythm 14 = .ok (.iload_n 2, 1) := by decide +kernel
theorem dX1_isRhythm_15 : decode cX1_isRhythm 15 = .ok (.iconst 1, 1) := by decide +kernel
theorem dX1_isRhythm_16 : decode cX1_isRhythm 16 = .ok (.iload 4, 2) := by decide +kernel
theorem dX1_isRhythm_18 : decode cX1_isRhythm 18 = .ok (.ishl, 1) := by decide +kernel
theorem dX1_isRhythm_19 : decode cX1_isRhythm 19 = .ok (.iconst 1, 1) := by decide +kernel
theorem dX1_isRhythm_20 : decode cX1_isRhythm 20 = .ok (.isub, 1) := by decide +kernel
theorem dX1_isRhythm_21 : decode cX1_isRhythm 21 = .ok (.iand, 1) := by decide +kernel
theorem dX1_isRhythm_22 : decode cX1_isRhythm 22 = .ok (.aload_n 0, 1) := by decide +kernel
theorem dX1_isRhythm_23 : decode cX1_isRhythm 23 = .ok (.getfield 21, 3) := by decide +kernel
theorem dX1_isRhythm_26 : decode cX1_isRhythm 26 = .ok (.iload_n 1, 1) := by decide +kernel
theorem dX1_isRhythm_27 : decode cX1_isRhythm 27 = .ok (.iaload, 1) := by decide +kernel
theorem dX1_isRhythm_28 : decode cX1_isRhythm 28 = .ok (.if_icmp .ne 7, 3) := by decide +kernel
theorem dX1_isRhythm_31 : decode cX1_isRhythm 31 = .ok (.iconst 1, 1) := by decide +kernel
theorem dX1_isRhythm_32 : decode cX1_isRhythm 32 = .ok (.goto 4, 3) := by decide +kernel
theorem dX1_isRhythm_35 : decode cX1_isRhythm 35 = .ok (.iconst 0, 1) := by decide +kernel
theorem dX1_isRhythm_36 : decode cX1_isRhythm 36 = .ok (.ireturn, 1) := by decide +kernel
theorem dX1_changeOf_0 : decode cX1_changeOf 0 = .ok (.iload 4, 2) := by decide +kernel
theorem dX1_changeOf_2 : decode cX1_changeOf 2 = .ok (.aload_n 0, 1) := by decide +kernel
theorem dX1_changeOf_3 : decode cX1_changeOf 3 = .ok (.getfield 9, 3) := by decide +kernel
theorem dX1_changeOf_6 : decode cX1_changeOf 6 = .ok (.iload_n 3, 1) := by decide +kernel
theorem dX1_changeOf_7 : decode cX1_changeOf 7 = .ok (.iaload, 1) := by decide +kernel
theorem dX1_changeOf_8 : decode cX1_changeOf 8 = .ok (.imul, 1) := by decide +kernel
theorem dX1_changeOf_9 : decode cX1_changeOf 9 = .ok (.aload_n 1, 1) := by decide +kernel
theorem dX1_changeOf_10 : decode cX1_changeOf 10 = .ok (.getfield 66, 3) := by decide +kernel
theorem dX1_changeOf_13 : decode cX1_changeOf 13 = .ok (.iload_n 2, 1) := by decide +kernel
theorem dX1_changeOf_14 : decode cX1_changeOf 14 = .ok (.iaload, 1) := by decide +kernel
theorem dX1_changeOf_15 : decode cX1_changeOf 15 = .ok (.isub, 1) := by decide +kernel
theorem dX1_changeOf_16 : decode cX1_changeOf 16 = .ok (.ireturn, 1) := by decide +kernel
set_option maxRecDepth 20000 in
theorem ggX1_sell_X1_changeOf : GoodIn wsX1_sell wsX1_changeOf := goodIn_r _ [11, 12, 60, 61, 62, 63, 64, 65, 66, 67, 68, 45, 46, 47, 48, 49, 50, 51, 52, 53, 54, 55, 56, 57, 58, 59] (by decide +kernel) (by decide +kernel)
set_option maxRecDepth 20000 in
theorem gX1_sell_X1_changeOf : GoodIn wsX1_sell (wsV RX1 69 RX1 yX1_changeOf wsX1_changeOf) := goodIn_app (goodIn_of _ (by decide +kernel)) ggX1_sell_X1_changeOf
set_option maxRecDepth 20000 in
theorem ggX1_sell_X4_isJammed : GoodIn wsX1_sell wsX4_isJammed := goodIn_r _ [17, 18, 45, 46, 47, 48, 49, 50, 51, 52, 53, 54, 55, 56, 57, 58, 59] (by decide +kernel) (by decide +kernel)
set_option maxRecDepth 20000 in
theorem gX1_sell_X4_isJammed : GoodIn wsX1_sell (wsV RX1 76 RX4 yX4_isJammed wsX4_isJammed) := goodIn_app (goodIn_of _ (by decide +kernel)) ggX1_sell_X4_isJammed
set_option maxRecDepth 20000 in
theorem ggX1_sell_X1_passes : GoodIn wsX1_sell wsX1_passes := goodIn_r _ [22, 23, 24, 25, 10, 26, 27, 45, 46, 47, 48, 49, 50, 51, 52, 53, 54, 55, 56, 57, 58, 59, 60, 61, 62, 63, 64, 65, 66, 67, 68] (by decide +kernel) (by decide +kernel)
set_option maxRecDepth 20000 in
theorem gX1_sell_X1_passes : GoodIn wsX1_sell (wsV RX1 59 RX1 yX1_passes wsX1_passes) := goodIn_app (goodIn_of _ (by decide +kernel)) ggX1_sell_X1_passes
set_option maxRecDepth 20000 in
theorem ggX1_sell_X4_takeIn : GoodIn wsX1_sell wsX4_takeIn := goodIn_r _ [31, 32, 33, 34, 5, 35, 36, 37, 38, 4, 6, 45, 46, 47, 48, 49, 50, 51, 52, 53, 54, 55, 56, 57, 58, 59] (by decide +kernel) (by decide +kernel)
set_option maxRecDepth 20000 in
theorem gX1_sell_X4_takeIn : GoodIn wsX1_sell (wsV RX1 83 RX4 yX4_takeIn wsX4_takeIn) := goodIn_app (goodIn_of _ (by decide +kernel)) ggX1_sell_X4_takeIn
set_option maxRecDepth 20000 in
theorem ggX1_sell_X1_payBack : GoodIn wsX1_sell wsX1_payBack := goodIn_r _ [42, 43, 44, 12, 3, 4, 5, 6, 60, 61, 62, 63, 64, 65, 66, 67, 68] (by decide +kernel) (by decide +kernel)
set_option maxRecDepth 20000 in
theorem gX1_sell_X1_payBack : GoodIn wsX1_sell (wsV RX1 87 RX1 yX1_payBack wsX1_payBack) := goodIn_app (goodIn_of _ (by decide +kernel)) ggX1_sell_X1_payBack
theorem dX1_sell_0 : decode cX1_sell 0 = .ok (.aload_n 0, 1) := by decide +kernel
theorem dX1_sell_1 : decode cX1_sell 1 = .ok (.aload_n 1, 1) := by decide +kernel
theorem dX1_sell_2 : decode cX1_sell 2 = .ok (.iload_n 2, 1) := by decide +kernel
theorem dX1_sell_3 : decode cX1_sell 3 = .ok (.iload_n 3, 1) := by decide +kernel
theorem dX1_sell_4 : decode cX1_sell 4 = .ok (.iload 4, 2) := by decide +kernel
theorem dX1_sell_6 : decode cX1_sell 6 = .ok (.invokevirtual 69, 3) := by decide +kernel
theorem dX1_sell_9 : decode cX1_sell 9 = .ok (.istore 5, 2) := by decide +kernel
theorem dX1_sell_11 : decode cX1_sell 11 = .ok (.aload_n 1, 1) := by decide +kernel
theorem dX1_sell_12 : decode cX1_sell 12 = .ok (.getfield 73, 3) := by decide +kernel
theorem dX1_sell_15 : decode cX1_sell 15 = .ok (.iload_n 2, 1) := by decide +kernel
theorem dX1_sell_16 : decode cX1_sell 16 = .ok (.iaload, 1) := by decide +kernel
theorem dX1_sell_17 : decode cX1_sell 17 = .ok (.istore 6, 2) := by decide +kernel
theorem dX1_sell_19 : decode cX1_sell 19 = .ok (.aload_n 1, 1) := by decide +kernel
theorem dX1_sell_20 : decode cX1_sell 20 = .ok (.iload_n 2, 1) := by decide +kernel
theorem dX1_sell_21 : decode cX1_sell 21 = .ok (.invokevirtual 76, 3) := by decide +kernel
theorem dX1_sell_24 : decode cX1_sell 24 = .ok (.ifCond .ne 28, 3) := by decide +kernel
theorem dX1_sell_27 : decode cX1_sell 27 = .ok (.aload_n 0, 1) := by decide +kernel
theorem dX1_sell_28 : decode cX1_sell 28 = .ok (.aload_n 1, 1) := by decide +kernel
theorem dX1_sell_29 : decode cX1_sell 29 = .ok (.iload_n 2, 1) := by decide +kernel
theorem dX1_sell_30 : decode cX1_sell 30 = .ok (.iload_n 3, 1) := by decide +kernel
theorem dX1_sell_31 : decode cX1_sell 31 = .ok (.invokevirtual 59, 3) := by decide +kernel
theorem dX1_sell_34 : decode cX1_sell 34 = .ok (.ifCond .eq 18, 3) := by decide +kernel
theorem dX1_sell_37 : decode cX1_sell 37 = .ok (.iload 5, 2) := by decide +kernel
theorem dX1_sell_39 : decode cX1_sell 39 = .ok (.ifCond .lt 13, 3) := by decide +kernel
theorem dX1_sell_42 : decode cX1_sell 42 = .ok (.aload_n 1, 1) := by decide +kernel
theorem dX1_sell_43 : decode cX1_sell 43 = .ok (.getfield 79, 3) := by decide +kernel
theorem dX1_sell_46 : decode cX1_sell 46 = .ok (.iload 6, 2) := by decide +kernel
theorem dX1_sell_48 : decode cX1_sell 48 = .ok (.iaload, 1) := by decide +kernel
theorem dX1_sell_49 : decode cX1_sell 49 = .ok (.ifCond .ne 6, 3) := by decide +kernel
theorem dX1_sell_52 : decode cX1_sell 52 = .ok (.ldc 82, 2) := by decide +kernel
theorem dX1_sell_54 : decode cX1_sell 54 = .ok (.ireturn, 1) := by decide +kernel
theorem dX1_sell_55 : decode cX1_sell 55 = .ok (.aload_n 1, 1) := by decide +kernel
theorem dX1_sell_56 : decode cX1_sell 56 = .ok (.getfield 79, 3) := by decide +kernel
theorem dX1_sell_59 : decode cX1_sell 59 = .ok (.iload 6, 2) := by decide +kernel
theorem dX1_sell_61 : decode cX1_sell 61 = .ok (.dup2, 1) := by decide +kernel
theorem dX1_sell_62 : decode cX1_sell 62 = .ok (.iaload, 1) := by decide +kernel
theorem dX1_sell_63 : decode cX1_sell 63 = .ok (.iconst 1, 1) := by decide +kernel
theorem dX1_sell_64 : decode cX1_sell 64 = .ok (.isub, 1) := by decide +kernel
theorem dX1_sell_65 : decode cX1_sell 65 = .ok (.iastore, 1) := by decide +kernel
theorem dX1_sell_66 : decode cX1_sell 66 = .ok (.aload_n 1, 1) := by decide +kernel
theorem dX1_sell_67 : decode cX1_sell 67 = .ok (.iload_n 3, 1) := by decide +kernel
theorem dX1_sell_68 : decode cX1_sell 68 = .ok (.iload 4, 2) := by decide +kernel
theorem dX1_sell_70 : decode cX1_sell 70 = .ok (.invokevirtual 83, 3) := by decide +kernel
theorem dX1_sell_73 : decode cX1_sell 73 = .ok (.aload_n 0, 1) := by decide +kernel
theorem dX1_sell_74 : decode cX1_sell 74 = .ok (.aload_n 1, 1) := by decide +kernel
theorem dX1_sell_75 : decode cX1_sell 75 = .ok (.getfield 63, 3) := by decide +kernel
theorem dX1_sell_78 : decode cX1_sell 78 = .ok (.iload 5, 2) := by decide +kernel
theorem dX1_sell_80 : decode cX1_sell 80 = .ok (.invokevirtual 87, 3) := by decide +kernel
theorem dX1_sell_83 : decode cX1_sell 83 = .ok (.istore 7, 2) := by decide +kernel
theorem dX1_sell_85 : decode cX1_sell 85 = .ok (.aload_n 1, 1) := by decide +kernel
theorem dX1_sell_86 : decode cX1_sell 86 = .ok (.ldc 91, 2) := by decide +kernel
theorem dX1_sell_88 : decode cX1_sell 88 = .ok (.aload_n 1, 1) := by decide +kernel
theorem dX1_sell_89 : decode cX1_sell 89 = .ok (.getfield 92, 3) := by decide +kernel
theorem dX1_sell_92 : decode cX1_sell 92 = .ok (.iload 5, 2) := by decide +kernel
theorem dX1_sell_94 : decode cX1_sell 94 = .ok (.iadd, 1) := by decide +kernel
theorem dX1_sell_95 : decode cX1_sell 95 = .ok (.iload 7, 2) := by decide +kernel
theorem dX1_sell_97 : decode cX1_sell 97 = .ok (.isub, 1) := by decide +kernel
theorem dX1_sell_98 : decode cX1_sell 98 = .ok (.invokestatic 95, 3) := by decide +kernel
theorem dX1_sell_101 : decode cX1_sell 101 = .ok (.putfield 92, 3) := by decide +kernel
theorem dX1_sell_104 : decode cX1_sell 104 = .ok (.aload_n 1, 1) := by decide +kernel
theorem dX1_sell_105 : decode cX1_sell 105 = .ok (.ldc 91, 2) := by decide +kernel
theorem dX1_sell_107 : decode cX1_sell 107 = .ok (.aload_n 1, 1) := by decide +kernel
theorem dX1_sell_108 : decode cX1_sell 108 = .ok (.getfield 101, 3) := by decide +kernel
theorem dX1_sell_111 : decode cX1_sell 111 = .ok (.iconst 1, 1) := by decide +kernel
theorem dX1_sell_112 : decode cX1_sell 112 = .ok (.iadd, 1) := by decide +kernel
theorem dX1_sell_113 : decode cX1_sell 113 = .ok (.invokestatic 95, 3) := by decide +kernel
theorem dX1_sell_116 : decode cX1_sell 116 = .ok (.putfield 101, 3) := by decide +kernel
theorem dX1_sell_119 : decode cX1_sell 119 = .ok (.aload_n 1, 1) := by decide +kernel
theorem dX1_sell_120 : decode cX1_sell 120 = .ok (.getfield 104, 3) := by decide +kernel
theorem dX1_sell_123 : decode cX1_sell 123 = .ok (.iload_n 2, 1) := by decide +kernel
theorem dX1_sell_124 : decode cX1_sell 124 = .ok (.dup2, 1) := by decide +kernel
theorem dX1_sell_125 : decode cX1_sell 125 = .ok (.iaload, 1) := by decide +kernel
theorem dX1_sell_126 : decode cX1_sell 126 = .ok (.aload_n 1, 1) := by decide +kernel
theorem dX1_sell_127 : decode cX1_sell 127 = .ok (.getfield 107, 3) := by decide +kernel
theorem dX1_sell_130 : decode cX1_sell 130 = .ok (.iload 4, 2) := by decide +kernel
theorem dX1_sell_132 : decode cX1_sell 132 = .ok (.imul, 1) := by decide +kernel
theorem dX1_sell_133 : decode cX1_sell 133 = .ok (.iadd, 1) := by decide +kernel
theorem dX1_sell_134 : decode cX1_sell 134 = .ok (.iastore, 1) := by decide +kernel
theorem dX1_sell_135 : decode cX1_sell 135 = .ok (.iload 7, 2) := by decide +kernel
theorem dX1_sell_137 : decode cX1_sell 137 = .ok (.ireturn, 1) := by decide +kernel
theorem dX1_payBack_0 : decode cX1_payBack 0 = .ok (.iload_n 2, 1) := by decide +kernel
theorem dX1_payBack_1 : decode cX1_payBack 1 = .ok (.istore_n 3, 1) := by decide +kernel
theorem dX1_payBack_2 : decode cX1_payBack 2 = .ok (.iconst 0, 1) := by decide +kernel
theorem dX1_payBack_3 : decode cX1_payBack 3 = .ok (.istore 4, 2) := by decide +kernel
theorem dX1_payBack_5 : decode cX1_payBack 5 = .ok (.iload 4, 2) := by decide +kernel
theorem dX1_payBack_7 : decode cX1_payBack 7 = .ok (.aload_n 0, 1) := by decide +kernel
theorem dX1_payBack_8 : decode cX1_payBack 8 = .ok (.getfield 30, 3) := by decide +kernel
theorem dX1_payBack_11 : decode cX1_payBack 11 = .ok (.if_icmp .ge 68, 3) := by decide +kernel
theorem dX1_payBack_14 : decode cX1_payBack 14 = .ok (.aload_n 0, 1) := by decide +kernel
theorem dX1_payBack_15 : decode cX1_payBack 15 = .ok (.getfield 27, 3) := by decide +kernel
theorem dX1_payBack_18 : decode cX1_payBack 18 = .ok (.iload 4, 2) := by decide +kernel
theorem dX1_payBack_20 : decode cX1_payBack 20 = .ok (.iaload, 1) := by decide +kernel
theorem dX1_payBack_21 : decode cX1_payBack 21 = .ok (.istore 5, 2) := by decide +kernel
theorem dX1_payBack_23 : decode cX1_payBack 23 = .ok (.aload_n 0, 1) := by decide +kernel
theorem dX1_payBack_24 : decode cX1_payBack 24 = .ok (.getfield 9, 3) := by decide +kernel
theorem dX1_payBack_27 : decode cX1_payBack 27 = .ok (.iload 5, 2) := by decide +kernel
theorem dX1_payBack_29 : decode cX1_payBack 29 = .ok (.iaload, 1) := by decide +kernel
theorem dX1_payBack_30 : decode cX1_payBack 30 = .ok (.ifCond .le 43, 3) := by decide +kernel
theorem dX1_payBack_33 : decode cX1_payBack 33 = .ok (.aload_n 1, 1) := by decide +kernel
theorem dX1_payBack_34 : decode cX1_payBack 34 = .ok (.iload 5, 2) := by decide +kernel
theorem dX1_payBack_36 : decode cX1_payBack 36 = .ok (.iaload, 1) := by decide +kernel
theorem dX1_payBack_37 : decode cX1_payBack 37 = .ok (.iload_n 3, 1) := by decide +kernel
theorem dX1_payBack_38 : decode cX1_payBack 38 = .ok (.aload_n 0, 1) := by decide +kernel
theorem dX1_payBack_39 : decode cX1_payBack 39 = .ok (.getfield 9, 3) := by decide +kernel
theorem dX1_payBack_42 : decode cX1_payBack 42 = .ok (.iload 5, 2) := by decide +kernel
theorem dX1_payBack_44 : decode cX1_payBack 44 = .ok (.iaload, 1) := by decide +kernel
theorem dX1_payBack_45 : decode cX1_payBack 45 = .ok (.idiv, 1) := by decide +kernel
theorem dX1_payBack_46 : decode cX1_payBack 46 = .ok (.invokestatic 95, 3) := by decide +kernel
theorem dX1_payBack_49 : decode cX1_payBack 49 = .ok (.istore 6, 2) := by decide +kernel
theorem dX1_payBack_51 : decode cX1_payBack 51 = .ok (.aload_n 1, 1) := by decide +kernel
theorem dX1_payBack_52 : decode cX1_payBack 52 = .ok (.iload 5, 2) := by decide +kernel
theorem dX1_payBack_54 : decode cX1_payBack 54 = .ok (.dup2, 1) := by decide +kernel
theorem dX1_payBack_55 : decode cX1_payBack 55 = .ok (.iaload, 1) := by decide +kernel
theorem dX1_payBack_56 : decode cX1_payBack 56 = .ok (.iload 6, 2) := by decide +kernel
theorem dX1_payBack_58 : decode cX1_payBack 58 = .ok (.isub, 1) := by decide +kernel
theorem dX1_payBack_59 : decode cX1_payBack 59 = .ok (.iastore, 1) := by decide +kernel
theorem dX1_payBack_60 : decode cX1_payBack 60 = .ok (.iload_n 3, 1) := by decide +kernel
theorem dX1_payBack_61 : decode cX1_payBack 61 = .ok (.iload 6, 2) := by decide +kernel
theorem dX1_payBack_63 : decode cX1_payBack 63 = .ok (.aload_n 0, 1) := by decide +kernel
theorem dX1_payBack_64 : decode cX1_payBack 64 = .ok (.getfield 9, 3) := by decide +kernel
theorem dX1_payBack_67 : decode cX1_payBack 67 = .ok (.iload 5, 2) := by decide +kernel
theorem dX1_payBack_69 : decode cX1_payBack 69 = .ok (.iaload, 1) := by decide +kernel
theorem dX1_payBack_70 : decode cX1_payBack 70 = .ok (.imul, 1) := by decide +kernel
theorem dX1_payBack_71 : decode cX1_payBack 71 = .ok (.isub, 1) := by decide +kernel
theorem dX1_payBack_72 : decode cX1_payBack 72 = .ok (.istore_n 3, 1) := by decide +kernel
theorem dX1_payBack_73 : decode cX1_payBack 73 = .ok (.iinc 4 1, 3) := by decide +kernel
theorem dX1_payBack_76 : decode cX1_payBack 76 = .ok (.goto (-71), 3) := by decide +kernel
theorem dX1_payBack_79 : decode cX1_payBack 79 = .ok (.iload_n 2, 1) := by decide +kernel
theorem dX1_payBack_80 : decode cX1_payBack 80 = .ok (.iload_n 3, 1) := by decide +kernel
theorem dX1_payBack_81 : decode cX1_payBack 81 = .ok (.isub, 1) := by decide +kernel
