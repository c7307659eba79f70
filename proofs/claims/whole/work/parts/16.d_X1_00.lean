theorem dX1_init_0 : decode cX1_init 0 = .ok (.aload_n 0, 1) := by decide +kernel
theorem dX1_init_1 : decode cX1_init 1 = .ok (.invokespecial 3, 3) := by decide +kernel
theorem dX1_init_4 : decode cX1_init 4 = .ok (.aload_n 0, 1) := by decide +kernel
theorem dX1_init_5 : decode cX1_init 5 = .ok (.iconst 5, 1) := by decide +kernel
theorem dX1_init_6 : decode cX1_init 6 = .ok (.newarray .int, 2) := by decide +kernel
theorem dX1_init_8 : decode cX1_init 8 = .ok (.putfield 9, 3) := by decide +kernel
theorem dX1_init_11 : decode cX1_init 11 = .ok (.aload_n 0, 1) := by decide +kernel
theorem dX1_init_12 : decode cX1_init 12 = .ok (.iconst 5, 1) := by decide +kernel
theorem dX1_init_13 : decode cX1_init 13 = .ok (.newarray .int, 2) := by decide +kernel
theorem dX1_init_15 : decode cX1_init 15 = .ok (.putfield 15, 3) := by decide +kernel
theorem dX1_init_18 : decode cX1_init 18 = .ok (.aload_n 0, 1) := by decide +kernel
theorem dX1_init_19 : decode cX1_init 19 = .ok (.iconst 5, 1) := by decide +kernel
theorem dX1_init_20 : decode cX1_init 20 = .ok (.newarray .int, 2) := by decide +kernel
theorem dX1_init_22 : decode cX1_init 22 = .ok (.putfield 18, 3) := by decide +kernel
theorem dX1_init_25 : decode cX1_init 25 = .ok (.aload_n 0, 1) := by decide +kernel
theorem dX1_init_26 : decode cX1_init 26 = .ok (.iconst 5, 1) := by decide +kernel
theorem dX1_init_27 : decode cX1_init 27 = .ok (.newarray .int, 2) := by decide +kernel
theorem dX1_init_29 : decode cX1_init 29 = .ok (.putfield 21, 3) := by decide +kernel
theorem dX1_init_32 : decode cX1_init 32 = .ok (.aload_n 0, 1) := by decide +kernel
theorem dX1_init_33 : decode cX1_init 33 = .ok (.iconst 5, 1) := by decide +kernel
theorem dX1_init_34 : decode cX1_init 34 = .ok (.newarray .int, 2) := by decide +kernel
theorem dX1_init_36 : decode cX1_init 36 = .ok (.putfield 24, 3) := by decide +kernel
theorem dX1_init_39 : decode cX1_init 39 = .ok (.aload_n 0, 1) := by decide +kernel
theorem dX1_init_40 : decode cX1_init 40 = .ok (.iconst 5, 1) := by decide +kernel
theorem dX1_init_41 : decode cX1_init 41 = .ok (.newarray .int, 2) := by decide +kernel
theorem dX1_init_43 : decode cX1_init 43 = .ok (.putfield 27, 3) := by decide +kernel
theorem dX1_init_46 : decode cX1_init 46 = .ok (.return_, 1) := by decide +kernel
theorem dX1_clear_0 : decode cX1_clear 0 = .ok (.aload_n 0, 1) := by decide +kernel
theorem dX1_clear_1 : decode cX1_clear 1 = .ok (.iconst 0, 1) := by decide +kernel
theorem dX1_clear_2 : decode cX1_clear 2 = .ok (.putfield 30, 3) := by decide +kernel
theorem dX1_clear_5 : decode cX1_clear 5 = .ok (.aload_n 0, 1) := by decide +kernel
theorem dX1_clear_6 : decode cX1_clear 6 = .ok (.iconst 0, 1) := by decide +kernel
theorem dX1_clear_7 : decode cX1_clear 7 = .ok (.putfield 34, 3) := by decide +kernel
theorem dX1_clear_10 : decode cX1_clear 10 = .ok (.aload_n 0, 1) := by decide +kernel
theorem dX1_clear_11 : decode cX1_clear 11 = .ok (.iconst 0, 1) := by decide +kernel
theorem dX1_clear_12 : decode cX1_clear 12 = .ok (.putfield 37, 3) := by decide +kernel
theorem dX1_clear_15 : decode cX1_clear 15 = .ok (.iconst 0, 1) := by decide +kernel
theorem dX1_clear_16 : decode cX1_clear 16 = .ok (.istore_n 1, 1) := by decide +kernel
theorem dX1_clear_17 : decode cX1_clear 17 = .ok (.iload_n 1, 1) := by decide +kernel
theorem dX1_clear_18 : decode cX1_clear 18 = .ok (.iconst 5, 1) := by decide +kernel
theorem dX1_clear_19 : decode cX1_clear 19 = .ok (.if_icmp .ge 23, 3) := by decide +kernel
theorem dX1_clear_22 : decode cX1_clear 22 = .ok (.aload_n 0, 1) := by decide +kernel
theorem dX1_clear_23 : decode cX1_clear 23 = .ok (.getfield 21, 3) := by decide +kernel
theorem dX1_clear_26 : decode cX1_clear 26 = .ok (.iload_n 1, 1) := by decide +kernel
theorem dX1_clear_27 : decode cX1_clear 27 = .ok (.iconst 0, 1) := by decide +kernel
theorem dX1_clear_28 : decode cX1_clear 28 = .ok (.iastore, 1) := by decide +kernel
theorem dX1_clear_29 : decode cX1_clear 29 = .ok (.aload_n 0, 1) := by decide +kernel
theorem dX1_clear_30 : decode cX1_clear 30 = .ok (.getfield 24, 3) := by decide +kernel
theorem dX1_clear_33 : decode cX1_clear 33 = .ok (.iload_n 1, 1) := by decide +kernel
theorem dX1_clear_34 : decode cX1_clear 34 = .ok (.iconst 0, 1) := by decide +kernel
theorem dX1_clear_35 : decode cX1_clear 35 = .ok (.iastore, 1) := by decide +kernel
theorem dX1_clear_36 : decode cX1_clear 36 = .ok (.iinc 1 1, 3) := by decide +kernel
theorem dX1_clear_39 : decode cX1_clear 39 = .ok (.goto (-22), 3) := by decide +kernel
theorem dX1_clear_42 : decode cX1_clear 42 = .ok (.return_, 1) := by decide +kernel
theorem dX1_addKind_0 : decode cX1_addKind 0 = .ok (.aload_n 0, 1) := by decide +kernel
theorem dX1_addKind_1 : decode cX1_addKind 1 = .ok (.getfield 30, 3) := by decide +kernel
theorem dX1_addKind_4 : decode cX1_addKind 4 = .ok (.iconst 5, 1) := by decide +kernel
theorem dX1_addKind_5 : decode cX1_addKind 5 = .ok (.if_icmp .lt 4, 3) := by decide +kernel
theorem dX1_addKind_8 : decode cX1_addKind 8 = .ok (.return_, 1) := by decide +kernel
theorem dX1_addKind_9 : decode cX1_addKind 9 = .ok (.aload_n 0, 1) := by decide +kernel
theorem dX1_addKind_10 : decode cX1_addKind 10 = .ok (.getfield 9, 3) := by decide +kernel
theorem dX1_addKind_13 : decode cX1_addKind 13 = .ok (.aload_n 0, 1) := by decide +kernel
theorem dX1_addKind_14 : decode cX1_addKind 14 = .ok (.getfield 30, 3) := by decide +kernel
theorem dX1_addKind_17 : decode cX1_addKind 17 = .ok (.iload_n 1, 1) := by decide +kernel
theorem dX1_addKind_18 : decode cX1_addKind 18 = .ok (.iastore, 1) := by decide +kernel
theorem dX1_addKind_19 : decode cX1_addKind 19 = .ok (.aload_n 0, 1) := by decide +kernel
theorem dX1_addKind_20 : decode cX1_addKind 20 = .ok (.getfield 15, 3) := by decide +kernel
theorem dX1_addKind_23 : decode cX1_addKind 23 = .ok (.aload_n 0, 1) := by decide +kernel
theorem dX1_addKind_24 : decode cX1_addKind 24 = .ok (.getfield 30, 3) := by decide +kernel
theorem dX1_addKind_27 : decode cX1_addKind 27 = .ok (.iload_n 2, 1) := by decide +kernel
theorem dX1_addKind_28 : decode cX1_addKind 28 = .ok (.iastore, 1) := by decide +kernel
theorem dX1_addKind_29 : decode cX1_addKind 29 = .ok (.aload_n 0, 1) := by decide +kernel
theorem dX1_addKind_30 : decode cX1_addKind 30 = .ok (.getfield 30, 3) := by decide +kernel
theorem dX1_addKind_33 : decode cX1_addKind 33 = .ok (.istore_n 3, 1) := by decide +kernel
theorem dX1_addKind_34 : decode cX1_addKind 34 = .ok (.iload_n 3, 1) := by decide +kernel
theorem dX1_addKind_35 : decode cX1_addKind 35 = .ok (.ifCond .le 40, 3) := by decide +kernel
theorem dX1_addKind_38 : decode cX1_addKind 38 = .ok (.aload_n 0, 1) := by decide +kernel
theorem dX1_addKind_39 : decode cX1_addKind 39 = .ok (.getfield 9, 3) := by decide +kernel
theorem dX1_addKind_42 : decode cX1_addKind 42 = .ok (.aload_n 0, 1) := by decide +kernel
theorem dX1_addKind_43 : decode cX1_addKind 43 = .ok (.getfield 27, 3) := by decide +kernel
theorem dX1_addKind_46 : decode cX1_addKind 46 = .ok (.iload_n 3, 1) := by decide +kernel
theorem dX1_addKind_47 : decode cX1_addKind 47 = .ok (.iconst 1, 1) := by decide +kernel
theorem dX1_addKind_48 : decode cX1_addKind 48 = .ok (.isub, 1) := by decide +kernel
theorem dX1_addKind_49 : decode cX1_addKind 49 = .ok (.iaload, 1) := by decide +kernel
theorem dX1_addKind_50 : decode cX1_addKind 50 = .ok (.iaload, 1) := by decide +kernel
theorem dX1_addKind_51 : decode cX1_addKind 51 = .ok (.iload_n 1, 1) := by decide +kernel
theorem dX1_addKind_52 : decode cX1_addKind 52 = .ok (.if_icmp .ge 23, 3) := by decide +kernel
theorem dX1_addKind_55 : decode cX1_addKind 55 = .ok (.aload_n 0, 1) := by decide +kernel
theorem dX1_addKind_56 : decode cX1_addKind 56 = .ok (.getfield 27, 3) := by decide +kernel
theorem dX1_addKind_59 : decode cX1_addKind 59 = .ok (.iload_n 3, 1) := by decide +kernel
theorem dX1_addKind_60 : decode cX1_addKind 60 = .ok (.aload_n 0, 1) := by decide +kernel
theorem dX1_addKind_61 : decode cX1_addKind 61 = .ok (.getfield 27, 3) := by decide +kernel
theorem dX1_addKind_64 : decode cX1_addKind 64 = .ok (.iload_n 3, 1) := by decide +kernel
theorem dX1_addKind_65 : decode cX1_addKind 65 = .ok (.iconst 1, 1) := by decide +kernel
theorem dX1_addKind_66 : decode cX1_addKind 66 = .ok (.isub, 1) := by decide +kernel
theorem dX1_addKind_67 : decode cX1_addKind 67 = .ok (.iaload, 1) := by decide +kernel
theorem dX1_addKind_68 : decode cX1_addKind 68 = .ok (.iastore, 1) := by decide +kernel
theorem dX1_addKind_69 : decode cX1_addKind 69 = .ok (.iinc 3 (-1), 3) := by decide +kernel
theorem dX1_addKind_72 : decode cX1_addKind 72 = .ok (.goto (-38), 3) := by decide +kernel
theorem dX1_addKind_75 : decode cX1_addKind 75 = .ok (.aload_n 0, 1) := by decide +kernel
theorem dX1_addKind_76 : decode cX1_addKind 76 = .ok (.getfield 27, 3) := by decide +kernel
theorem dX1_addKind_79 : decode cX1_addKind 79 = .ok (.iload_n 3, 1) := by decide +kernel
theorem dX1_addKind_80 : decode cX1_addKind 80 = .ok (.aload_n 0, 1) := by decide +kernel
theorem dX1_addKind_81 : decode cX1_addKind 81 = .ok (.getfield 30, 3) := by decide +kernel
theorem dX1_addKind_84 : decode cX1_addKind 84 = .ok (.iastore, 1) := by decide +kernel
theorem dX1_addKind_85 : decode cX1_addKind 85 = .ok (.aload_n 0, 1) := by decide +kernel
theorem dX1_addKind_86 : decode cX1_addKind 86 = .ok (.dup, 1) := by decide +kernel
theorem dX1_addKind_87 : decode cX1_addKind 87 = .ok (.getfield 30, 3) := by decide +kernel
theorem dX1_addKind_90 : decode cX1_addKind 90 = .ok (.iconst 1, 1) := by decide +kernel
theorem dX1_addKind_91 : decode cX1_addKind 91 = .ok (.iadd, 1) := by decide +kernel
theorem dX1_addKind_92 : decode cX1_addKind 92 = .ok (.putfield 30, 3) := by decide +kernel
theorem dX1_addKind_95 : decode cX1_addKind 95 = .ok (.return_, 1) := by decide +kernel
theorem dX1_addSlug_0 : decode cX1_addSlug 0 = .ok (.aload_n 0, 1) := by decide +kernel
theorem dX1_addSlug_1 : decode cX1_addSlug 1 = .ok (.getfield 37, 3) := by decide +kernel
theorem dX1_addSlug_4 : decode cX1_addSlug 4 = .ok (.iconst 5, 1) := by decide +kernel
theorem dX1_addSlug_5 : decode cX1_addSlug 5 = .ok (.if_icmp .ge 23, 3) := by decide +kernel
theorem dX1_addSlug_8 : decode cX1_addSlug 8 = .ok (.aload_n 0, 1) := by decide +kernel
theorem dX1_addSlug_9 : decode cX1_addSlug 9 = .ok (.getfield 18, 3) := by decide +kernel
theorem dX1_addSlug_12 : decode cX1_addSlug 12 = .ok (.aload_n 0, 1) := by decide +kernel
theorem dX1_addSlug_13 : decode cX1_addSlug 13 = .ok (.getfield 37, 3) := by decide +kernel
theorem dX1_addSlug_16 : decode cX1_addSlug 16 = .ok (.iload_n 1, 1) := by decide +kernel
theorem dX1_addSlug_17 : decode cX1_addSlug 17 = .ok (.iastore, 1) := by decide +kernel
theorem dX1_addSlug_18 : decode cX1_addSlug 18 = .ok (.aload_n 0, 1) := by decide +kernel
theorem dX1_addSlug_19 : decode cX1_addSlug 19 = .ok (.dup, 1) := by decide +kernel
theorem dX1_addSlug_20 : decode cX1_addSlug 20 = .ok (.getfield 37, 3) := by decide +kernel
theorem dX1_addSlug_23 : decode cX1_addSlug 23 = .ok (.iconst 1, 1) := by decide +kernel
theorem dX1_addSlug_24 : decode cX1_addSlug 24 = .ok (.iadd, 1) := by decide +kernel
theorem dX1_addSlug_25 : decode cX1_addSlug 25 = .ok (.putfield 37, 3) := by decide +kernel
theorem dX1_addSlug_28 : decode cX1_addSlug 28 = .ok (.return_, 1) := by decide +kernel
set_option maxRecDepth 20000 in
theorem ggX1_hasRhythm_X1_isColumn : GoodIn wsX1_hasRhythm wsX1_isColumn := goodIn_r _ [6, 7, 8, 9, 10, 11, 12, 13, 14, 15, 16] (by decide +kernel) (by decide +kernel)
set_option maxRecDepth 20000 in
theorem gX1_hasRhythm_X1_isColumn : GoodIn wsX1_hasRhythm (wsV RX1 40 RX1 yX1_isColumn wsX1_isColumn) := goodIn_app (goodIn_of _ (by decide +kernel)) ggX1_hasRhythm_X1_isColumn
theorem dX1_hasRhythm_0 : decode cX1_hasRhythm 0 = .ok (.aload_n 0, 1) := by decide +kernel
theorem dX1_hasRhythm_1 : decode cX1_hasRhythm 1 = .ok (.iload_n 1, 1) := by decide +kernel
theorem dX1_hasRhythm_2 : decode cX1_hasRhythm 2 = .ok (.invokevirtual 40, 3) := by decide +kernel
theorem dX1_hasRhythm_5 : decode cX1_hasRhythm 5 = .ok (.ifCond .eq 16, 3) := by decide +kernel
theorem dX1_hasRhythm_8 : decode cX1_hasRhythm 8 = .ok (.aload_n 0, 1) := by decide +kernel
theorem dX1_hasRhythm_9 : decode cX1_hasRhythm 9 = .ok (.getfield 24, 3) := by decide +kernel
theorem dX1_hasRhythm_12 : decode cX1_hasRhythm 12 = .ok (.iload_n 1, 1) := by decide +kernel
theorem dX1_hasRhythm_13 : decode cX1_hasRhythm 13 = .ok (.iaload, 1) := by decide +kernel
theorem dX1_hasRhythm_14 : decode cX1_hasRhythm 14 = .ok (.ifCond .le 7, 3) := by decide +kernel
theorem dX1_hasRhythm_17 : decode cX1_hasRhythm 17 = .ok (.iconst 1, 1) := by decide +kernel
theorem dX1_hasRhythm_18 : decode cX1_hasRhythm 18 = .ok (.goto 4, 3) := by decide +kernel
theorem dX1_hasRhythm_21 : decode cX1_hasRhythm 21 = .ok (.iconst 0, 1) := by decide +kernel
theorem dX1_hasRhythm_22 : decode cX1_hasRhythm 22 = .ok (.ireturn, 1) := by decide +kernel
set_option maxRecDepth 20000 in
theorem ggX1_setRhythm_X1_isColumn : GoodIn wsX1_setRhythm wsX1_isColumn := goodIn_r _ [7, 8, 9, 10, 11, 12, 13, 14, 15, 16, 17] (by decide +kernel) (by decide +kernel)
set_option maxRecDepth 20000 in
theorem gX1_setRhythm_X1_isColumn : GoodIn wsX1_setRhythm (wsV RX1 40 RX1 yX1_isColumn wsX1_isColumn) := goodIn_app (goodIn_of _ (by decide +kernel)) ggX1_setRhythm_X1_isColumn
theorem dX1_setRhythm_0 : decode cX1_setRhythm 0 = .ok (.aload_n 0, 1) := by decide +kernel
theorem dX1_setRhythm_1 : decode cX1_setRhythm 1 = .ok (.iload_n 1, 1) := by decide +kernel
theorem dX1_setRhythm_2 : decode cX1_setRhythm 2 = .ok (.invokevirtual 40, 3) := by decide +kernel
theorem dX1_setRhythm_5 : decode cX1_setRhythm 5 = .ok (.ifCond .eq 17, 3) := by decide +kernel
theorem dX1_setRhythm_8 : decode cX1_setRhythm 8 = .ok (.aload_n 0, 1) := by decide +kernel
theorem dX1_setRhythm_9 : decode cX1_setRhythm 9 = .ok (.getfield 21, 3) := by decide +kernel
theorem dX1_setRhythm_12 : decode cX1_setRhythm 12 = .ok (.iload_n 1, 1) := by decide +kernel
theorem dX1_setRhythm_13 : decode cX1_setRhythm 13 = .ok (.iload_n 2, 1) := by decide +kernel
theorem dX1_setRhythm_14 : decode cX1_setRhythm 14 = .ok (.iastore, 1) := by decide +kernel
theorem dX1_setRhythm_15 : decode cX1_setRhythm 15 = .ok (.aload_n 0, 1) := by decide +kernel
theorem dX1_setRhythm_16 : decode cX1_setRhythm 16 = .ok (.getfield 24, 3) := by decide +kernel
theorem dX1_setRhythm_19 : decode cX1_setRhythm 19 = .ok (.iload_n 1, 1) := by decide +kernel
theorem dX1_setRhythm_20 : decode cX1_setRhythm 20 = .ok (.iload_n 3, 1) := by decide +kernel
theorem dX1_setRhythm_21 : decode cX1_setRhythm 21 = .ok (.iastore, 1) := by decide +kernel
theorem dX1_setRhythm_22 : decode cX1_setRhythm 22 = .ok (.return_, 1) := by decide +kernel
theorem dX1_finish_0 : decode cX1_finish 0 = .ok (.iconst 0, 1) := by decide +kernel
theorem dX1_finish_1 : decode cX1_finish 1 = .ok (.istore_n 1, 1) := by decide +kernel
theorem dX1_finish_2 : decode cX1_finish 2 = .ok (.iload_n 1, 1) := by decide +kernel
theorem dX1_finish_3 : decode cX1_finish 3 = .ok (.aload_n 0, 1) := by decide +kernel
theorem dX1_finish_4 : decode cX1_finish 4 = .ok (.getfield 34, 3) := by decide +kernel
theorem dX1_finish_7 : decode cX1_finish 7 = .ok (.if_icmp .ge 25, 3) := by decide +kernel
theorem dX1_finish_10 : decode cX1_finish 10 = .ok (.aload_n 0, 1) := by decide +kernel
theorem dX1_finish_11 : decode cX1_finish 11 = .ok (.getfield 24, 3) := by decide +kernel
theorem dX1_finish_14 : decode cX1_finish 14 = .ok (.iload_n 1, 1) := by decide +kernel
theorem dX1_finish_15 : decode cX1_finish 15 = .ok (.iaload, 1) := by decide +kernel
theorem dX1_finish_16 : decode cX1_finish 16 = .ok (.ifCond .ne 10, 3) := by decide +kernel
theorem dX1_finish_19 : decode cX1_finish 19 = .ok (.aload_n 0, 1) := by decide +kernel
theorem dX1_finish_20 : decode cX1_finish 20 = .ok (.getfield 24, 3) := by decide +kernel
theorem dX1_finish_23 : decode cX1_finish 23 = .ok (.iload_n 1, 1) := by decide +kernel
theorem dX1_finish_24 : decode cX1_finish 24 = .ok (.iconst 1, 1) := by decide +kernel
theorem dX1_finish_25 : decode cX1_finish 25 = .ok (.iastore, 1) := by decide +kernel
theorem dX1_finish_26 : decode cX1_finish 26 = .ok (.iinc 1 1, 3) := by decide +kernel
theorem dX1_finish_29 : decode cX1_finish 29 = .ok (.goto (-27), 3) := by decide +kernel
theorem dX1_finish_32 : decode cX1_finish 32 = .ok (.return_, 1) := by decide +kernel
theorem dX1_isKind_0 : decode cX1_isKind 0 = .ok (.iload_n 1, 1) := by decide +kernel
theorem dX1_isKind_1 : decode cX1_isKind 1 = .ok (.ifCond .lt 15, 3) := by decide +kernel
theorem dX1_isKind_4 : decode cX1_isKind 4 = .ok (.iload_n 1, 1) := by decide +kernel
theorem dX1_isKind_5 : decode cX1_isKind 5 = .ok (.aload_n 0, 1) := by decide +kernel
theorem dX1_isKind_6 : decode cX1_isKind 6 = .ok (.getfield 30, 3) := by decide +kernel
theorem dX1_isKind_9 : decode cX1_isKind 9 = .ok (.if_icmp .ge 7, 3) := by decide +kernel
theorem dX1_isKind_12 : decode cX1_isKind 12 = .ok (.iconst 1, 1) := by decide +kernel
theorem dX1_isKind_13 : decode cX1_isKind 13 = .ok (.goto 4, 3) := by decide +kernel
theorem dX1_isKind_16 : decode cX1_isKind 16 = .ok (.iconst 0, 1) := by decide +kernel
theorem dX1_isKind_17 : decode cX1_isKind 17 = .ok (.ireturn, 1) := by decide +kernel
theorem dX1_isColumn_0 : decode cX1_isColumn 0 = .ok (.iload_n 1, 1) := by decide +kernel
theorem dX1_isColumn_1 : decode cX1_isColumn 1 = .ok (.ifCond .lt 15, 3) := by decide +kernel
theorem dX1_isColumn_4 : decode cX1_isColumn 4 = .ok (.iload_n 1, 1) := by decide +kernel
theorem dX1_isColumn_5 : decode cX1_isColumn 5 = .ok (.aload_n 0, 1) := by decide +kernel
theorem dX1_isColumn_6 : decode cX1_isColumn 6 = .ok (.getfield 34, 3) := by decide +kernel
theorem dX1_isColumn_9 : decode cX1_isColumn 9 = .ok (.if_icmp .ge 7, 3) := by decide +kernel
theorem dX1_isColumn_12 : decode cX1_isColumn 12 = .ok (.iconst 1, 1) := by decide +kernel
theorem dX1_isColumn_13 : decode cX1_isColumn 13 = .ok (.goto 4, 3) := by decide +kernel
theorem dX1_isColumn_16 : decode cX1_isColumn 16 = .ok (.iconst 0, 1) := by decide +kernel
theorem dX1_isColumn_17 : decode cX1_isColumn 17 = .ok (.ireturn, 1) := by decide +kernel
theorem dX1_weightNow_0 : decode cX1_weightNow 0 = .ok (.aload_n 0, 1) := by decide +kernel
theorem dX1_weightNow_1 : decode cX1_weightNow 1 = .ok (.getfield 15, 3) := by decide +kernel
theorem dX1_weightNow_4 : decode cX1_weightNow 4 = .ok (.iload_n 2, 1) := by decide +kernel
theorem dX1_weightNow_5 : decode cX1_weightNow 5 = .ok (.iaload, 1) := by decide +kernel
theorem dX1_weightNow_6 : decode cX1_weightNow 6 = .ok (.aload_n 1, 1) := by decide +kernel
theorem dX1_weightNow_7 : decode cX1_weightNow 7 = .ok (.getfield 44, 3) := by decide +kernel
theorem dX1_weightNow_10 : decode cX1_weightNow 10 = .ok (.isub, 1) := by decide +kernel
theorem dX1_weightNow_11 : decode cX1_weightNow 11 = .ok (.ireturn, 1) := by decide +kernel
set_option maxRecDepth 20000 in
theorem ggX1_passes_X1_weightNow : GoodIn wsX1_passes wsX1_weightNow := goodIn_r _ [5, 6, 22, 23, 24, 25, 26, 27, 28, 29, 30, 7, 8, 9, 10, 11, 12, 13, 14, 15, 16, 17, 18, 19, 20, 21] (by decide +kernel) (by decide +kernel)
set_option maxRecDepth 20000 in
theorem gX1_passes_X1_weightNow : GoodIn wsX1_passes (wsV RX1 49 RX1 yX1_weightNow wsX1_weightNow) := goodIn_app (goodIn_of _ (by decide +kernel)) ggX1_passes_X1_weightNow
theorem dX1_passes_0 : decode cX1_passes 0 = .ok (.aload_n 0, 1) := by decide +kernel
theorem dX1_passes_1 : decode cX1_passes 1 = .ok (.aload_n 1, 1) := by decide +kernel
theorem dX1_passes_2 : decode cX1_passes 2 = .ok (.iload_n 3, 1) := by decide +kernel
theorem dX1_passes_3 : decode cX1_passes 3 = .ok (.invokevirtual 49, 3) := by decide +kernel
theorem dX1_passes_6 : decode cX1_passes 6 = .ok (.aload_n 1, 1) := by decide +kernel
theorem dX1_passes_7 : decode cX1_passes 7 = .ok (.getfield 53, 3) := by decide +kernel
theorem dX1_passes_10 : decode cX1_passes 10 = .ok (.iload_n 2, 1) := by decide +kernel
theorem dX1_passes_11 : decode cX1_passes 11 = .ok (.iaload, 1) := by decide +kernel
theorem dX1_passes_12 : decode cX1_passes 12 = .ok (.if_icmp .lt 22, 3) := by decide +kernel
theorem dX1_passes_15 : decode cX1_passes 15 = .ok (.aload_n 0, 1) := by decide +kernel
theorem dX1_passes_16 : decode cX1_passes 16 = .ok (.aload_n 1, 1) := by decide +kernel
theorem dX1_passes_17 : decode cX1_passes 17 = .ok (.iload_n 3, 1) := by decide +kernel
theorem dX1_passes_18 : decode cX1_passes 18 = .ok (.invokevirtual 49, 3) := by decide +kernel
theorem dX1_passes_21 : decode cX1_passes 21 = .ok (.aload_n 1, 1) := by decide +kernel
theorem dX1_passes_22 : decode cX1_passes 22 = .ok (.getfield 56, 3) := by decide +kernel
theorem dX1_passes_25 : decode cX1_passes 25 = .ok (.iload_n 2, 1) := by decide +kernel
theorem dX1_passes_26 : decode cX1_passes 26 = .ok (.iaload, 1) := by decide +kernel
theorem dX1_passes_27 : decode cX1_passes 27 = .ok (.if_icmp .gt 7, 3) := by decide +kernel
theorem dX1_passes_30 : decode cX1_passes 30 = .ok (.iconst 1, 1) := by decide +kernel
theorem dX1_passes_31 : decode cX1_passes 31 = .ok (.goto 4, 3) := by decide +kernel
theorem dX1_passes_34 : decode cX1_passes 34 = .ok (.iconst 0, 1) := by decide +kernel
theorem dX1_passes_35 : decode cX1_passes 35 = .ok (.ireturn, 1) := by decide +kernel
set_option maxRecDepth 20000 in
theorem ggX1_columnsPassedBy_X1_passes : GoodIn wsX1_columnsPassedBy wsX1_passes := goodIn_r _ [6, 7, 8, 9, 5, 10, 11, 21, 22, 23, 24, 25, 26, 27, 28, 29, 30, 31, 32, 33, 34, 35, 12, 13, 14, 15, 16, 17, 18, 19, 20] (by decide +kernel) (by decide +kernel)
set_option maxRecDepth 20000 in
theorem gX1_columnsPassedBy_X1_passes : GoodIn wsX1_columnsPassedBy (wsV RX1 59 RX1 yX1_passes wsX1_passes) := goodIn_app (goodIn_of _ (by decide +kernel)) ggX1_columnsPassedBy_X1_passes
theorem dX1_columnsPassedBy_0 : decode cX1_columnsPassedBy 0 = .ok (.iconst 0, 1) := by decide +kernel
theorem dX1_columnsPassedBy_1 : decode cX1_columnsPassedBy 1 = .ok (.istore_n 3, 1) := by decide +kernel
theorem dX1_columnsPassedBy_2 : decode cX1_columnsPassedBy 2 = .ok (.iconst 0, 1) := by decide +kernel
theorem dX1_columnsPassedBy_3 : decode cX1_columnsPassedBy 3 = .ok (.istore 4, 2) := by decide +kernel
theorem dX1_columnsPassedBy_5 : decode cX1_columnsPassedBy 5 = .ok (.iload 4, 2) := by decide +kernel
theorem dX1_columnsPassedBy_7 : decode cX1_columnsPassedBy 7 = .ok (.aload_n 0, 1) := by decide +kernel
theorem dX1_columnsPassedBy_8 : decode cX1_columnsPassedBy 8 = .ok (.getfield 34, 3) := by decide +kernel
theorem dX1_columnsPassedBy_11 : decode cX1_columnsPassedBy 11 = .ok (.if_icmp .ge 27, 3) := by decide +kernel
theorem dX1_columnsPassedBy_14 : decode cX1_columnsPassedBy 14 = .ok (.aload_n 0, 1) := by decide +kernel
theorem dX1_columnsPassedBy_15 : decode cX1_columnsPassedBy 15 = .ok (.aload_n 1, 1) := by decide +kernel
theorem dX1_columnsPassedBy_16 : decode cX1_columnsPassedBy 16 = .ok (.iload 4, 2) := by decide +kernel
theorem dX1_columnsPassedBy_18 : decode cX1_columnsPassedBy 18 = .ok (.iload_n 2, 1) := by decide +kernel
theorem dX1_columnsPassedBy_19 : decode cX1_columnsPassedBy 19 = .ok (.invokevirtual 59, 3) := by decide +kernel
theorem dX1_columnsPassedBy_22 : decode cX1_columnsPassedBy 22 = .ok (.ifCond .eq 10, 3) := by decide +kernel
theorem dX1_columnsPassedBy_25 : decode cX1_columnsPassedBy 25 = .ok (.iload_n 3, 1) := by decide +kernel
theorem dX1_columnsPassedBy_26 : decode cX1_columnsPassedBy 26 = .ok (.iconst 1, 1) := by decide +kernel
theorem dX1_columnsPassedBy_27 : decode cX1_columnsPassedBy 27 = .ok (.iload 4, 2) := by decide +kernel
theorem dX1_columnsPassedBy_29 : decode cX1_columnsPassedBy 29 = .ok (.ishl, 1) := by decide +kernel
theorem dX1_columnsPassedBy_30 : decode cX1_columnsPassedBy 30 = .ok (.ior, 1) := by decide +kernel
theorem dX1_columnsPassedBy_31 : decode cX1_columnsPassedBy 31 = .ok (.istore_n 3, 1) := by decide +kernel
theorem dX1_columnsPassedBy_32 : decode cX1_columnsPassedBy 32 = .ok (.iinc 4 1, 3) := by decide +kernel
theorem dX1_columnsPassedBy_35 : decode cX1_columnsPassedBy 35 = .ok (.goto (-30), 3) := by decide +kernel
theorem dX1_columnsPassedBy_38 : decode cX1_columnsPassedBy 38 = .ok (.iload_n 3, 1) := by decide +kernel
theorem dX1_columnsPassedBy_39 : decode cX1_columnsPassedBy 39 = .ok (.ireturn, 1) := by decide +kernel
set_option maxRecDepth 20000 in
theorem ggX1_kindsWithin_X1_weightNow : GoodIn wsX1_kindsWithin wsX1_weightNow := goodIn_r _ [6, 7, 8, 9, 10, 11, 12, 13, 14, 15, 16, 17, 18, 19, 20, 21, 22, 23, 24, 25, 26, 27, 28, 29, 30, 31] (by decide +kernel) (by decide +kernel)
set_option maxRecDepth 20000 in
theorem gX1_kindsWithin_X1_weightNow : GoodIn wsX1_kindsWithin (wsV RX1 49 RX1 yX1_weightNow wsX1_weightNow) := goodIn_app (goodIn_of _ (by decide +kernel)) ggX1_kindsWithin_X1_weightNow
