theorem dX4_init_0 : decode cX4_init 0 = .ok (.aload_n 0, 1) := by decide +kernel
theorem dX4_init_1 : decode cX4_init 1 = .ok (.invokespecial 3, 3) := by decide +kernel
theorem dX4_init_4 : decode cX4_init 4 = .ok (.aload_n 0, 1) := by decide +kernel
theorem dX4_init_5 : decode cX4_init 5 = .ok (.iconst 5, 1) := by decide +kernel
theorem dX4_init_6 : decode cX4_init 6 = .ok (.newarray .int, 2) := by decide +kernel
theorem dX4_init_8 : decode cX4_init 8 = .ok (.putfield 9, 3) := by decide +kernel
theorem dX4_init_11 : decode cX4_init 11 = .ok (.aload_n 0, 1) := by decide +kernel
theorem dX4_init_12 : decode cX4_init 12 = .ok (.iconst 5, 1) := by decide +kernel
theorem dX4_init_13 : decode cX4_init 13 = .ok (.newarray .int, 2) := by decide +kernel
theorem dX4_init_15 : decode cX4_init 15 = .ok (.putfield 15, 3) := by decide +kernel
theorem dX4_init_18 : decode cX4_init 18 = .ok (.aload_n 0, 1) := by decide +kernel
theorem dX4_init_19 : decode cX4_init 19 = .ok (.iconst 5, 1) := by decide +kernel
theorem dX4_init_20 : decode cX4_init 20 = .ok (.newarray .int, 2) := by decide +kernel
theorem dX4_init_22 : decode cX4_init 22 = .ok (.putfield 18, 3) := by decide +kernel
theorem dX4_init_25 : decode cX4_init 25 = .ok (.aload_n 0, 1) := by decide +kernel
theorem dX4_init_26 : decode cX4_init 26 = .ok (.iconst 5, 1) := by decide +kernel
theorem dX4_init_27 : decode cX4_init 27 = .ok (.newarray .int, 2) := by decide +kernel
theorem dX4_init_29 : decode cX4_init 29 = .ok (.putfield 21, 3) := by decide +kernel
theorem dX4_init_32 : decode cX4_init 32 = .ok (.aload_n 0, 1) := by decide +kernel
theorem dX4_init_33 : decode cX4_init 33 = .ok (.iconst 5, 1) := by decide +kernel
theorem dX4_init_34 : decode cX4_init 34 = .ok (.newarray .int, 2) := by decide +kernel
theorem dX4_init_36 : decode cX4_init 36 = .ok (.putfield 24, 3) := by decide +kernel
theorem dX4_init_39 : decode cX4_init 39 = .ok (.aload_n 0, 1) := by decide +kernel
theorem dX4_init_40 : decode cX4_init 40 = .ok (.iconst 5, 1) := by decide +kernel
theorem dX4_init_41 : decode cX4_init 41 = .ok (.newarray .int, 2) := by decide +kernel
theorem dX4_init_43 : decode cX4_init 43 = .ok (.putfield 27, 3) := by decide +kernel
theorem dX4_init_46 : decode cX4_init 46 = .ok (.aload_n 0, 1) := by decide +kernel
theorem dX4_init_47 : decode cX4_init 47 = .ok (.iconst 5, 1) := by decide +kernel
theorem dX4_init_48 : decode cX4_init 48 = .ok (.newarray .int, 2) := by decide +kernel
theorem dX4_init_50 : decode cX4_init 50 = .ok (.putfield 30, 3) := by decide +kernel
theorem dX4_init_53 : decode cX4_init 53 = .ok (.aload_n 0, 1) := by decide +kernel
theorem dX4_init_54 : decode cX4_init 54 = .ok (.iconst 5, 1) := by decide +kernel
theorem dX4_init_55 : decode cX4_init 55 = .ok (.newarray .int, 2) := by decide +kernel
theorem dX4_init_57 : decode cX4_init 57 = .ok (.putfield 33, 3) := by decide +kernel
theorem dX4_init_60 : decode cX4_init 60 = .ok (.aload_n 0, 1) := by decide +kernel
theorem dX4_init_61 : decode cX4_init 61 = .ok (.iconst 5, 1) := by decide +kernel
theorem dX4_init_62 : decode cX4_init 62 = .ok (.newarray .int, 2) := by decide +kernel
theorem dX4_init_64 : decode cX4_init 64 = .ok (.putfield 36, 3) := by decide +kernel
theorem dX4_init_67 : decode cX4_init 67 = .ok (.return_, 1) := by decide +kernel
set_option maxRecDepth 20000 in
theorem ggX4_clear_X4_setColumn : GoodIn wsX4_clear wsX4_setColumn := goodIn_r _ [12, 13, 14, 15, 16, 17, 18, 19, 20, 11, 21, 22, 23, 24, 25, 26, 27, 28, 29, 30, 31, 32, 33, 34, 35, 36, 37, 38, 39] (by decide +kernel) (by decide +kernel)
set_option maxRecDepth 20000 in
theorem gX4_clear_X4_setColumn : GoodIn wsX4_clear (wsV RX4 39 RX4 yX4_setColumn wsX4_setColumn) := goodIn_app (goodIn_of _ (by decide +kernel)) ggX4_clear_X4_setColumn
theorem dX4_clear_0 : decode cX4_clear 0 = .ok (.iconst 0, 1) := by decide +kernel
theorem dX4_clear_1 : decode cX4_clear 1 = .ok (.istore_n 1, 1) := by decide +kernel
theorem dX4_clear_2 : decode cX4_clear 2 = .ok (.iload_n 1, 1) := by decide +kernel
theorem dX4_clear_3 : decode cX4_clear 3 = .ok (.iconst 5, 1) := by decide +kernel
theorem dX4_clear_4 : decode cX4_clear 4 = .ok (.if_icmp .ge 16, 3) := by decide +kernel
theorem dX4_clear_7 : decode cX4_clear 7 = .ok (.aload_n 0, 1) := by decide +kernel
theorem dX4_clear_8 : decode cX4_clear 8 = .ok (.getfield 9, 3) := by decide +kernel
theorem dX4_clear_11 : decode cX4_clear 11 = .ok (.iload_n 1, 1) := by decide +kernel
theorem dX4_clear_12 : decode cX4_clear 12 = .ok (.iconst 0, 1) := by decide +kernel
theorem dX4_clear_13 : decode cX4_clear 13 = .ok (.iastore, 1) := by decide +kernel
theorem dX4_clear_14 : decode cX4_clear 14 = .ok (.iinc 1 1, 3) := by decide +kernel
theorem dX4_clear_17 : decode cX4_clear 17 = .ok (.goto (-15), 3) := by decide +kernel
theorem dX4_clear_20 : decode cX4_clear 20 = .ok (.iconst 0, 1) := by decide +kernel
theorem dX4_clear_21 : decode cX4_clear 21 = .ok (.istore_n 1, 1) := by decide +kernel
theorem dX4_clear_22 : decode cX4_clear 22 = .ok (.iload_n 1, 1) := by decide +kernel
theorem dX4_clear_23 : decode cX4_clear 23 = .ok (.iconst 5, 1) := by decide +kernel
theorem dX4_clear_24 : decode cX4_clear 24 = .ok (.if_icmp .ge 18, 3) := by decide +kernel
theorem dX4_clear_27 : decode cX4_clear 27 = .ok (.aload_n 0, 1) := by decide +kernel
theorem dX4_clear_28 : decode cX4_clear 28 = .ok (.iload_n 1, 1) := by decide +kernel
theorem dX4_clear_29 : decode cX4_clear 29 = .ok (.iconst 0, 1) := by decide +kernel
theorem dX4_clear_30 : decode cX4_clear 30 = .ok (.iconst 0, 1) := by decide +kernel
theorem dX4_clear_31 : decode cX4_clear 31 = .ok (.iconst 0, 1) := by decide +kernel
theorem dX4_clear_32 : decode cX4_clear 32 = .ok (.iconst 0, 1) := by decide +kernel
theorem dX4_clear_33 : decode cX4_clear 33 = .ok (.invokevirtual 39, 3) := by decide +kernel
theorem dX4_clear_36 : decode cX4_clear 36 = .ok (.iinc 1 1, 3) := by decide +kernel
theorem dX4_clear_39 : decode cX4_clear 39 = .ok (.goto (-17), 3) := by decide +kernel
theorem dX4_clear_42 : decode cX4_clear 42 = .ok (.aload_n 0, 1) := by decide +kernel
theorem dX4_clear_43 : decode cX4_clear 43 = .ok (.iconst 0, 1) := by decide +kernel
theorem dX4_clear_44 : decode cX4_clear 44 = .ok (.putfield 43, 3) := by decide +kernel
theorem dX4_clear_47 : decode cX4_clear 47 = .ok (.aload_n 0, 1) := by decide +kernel
theorem dX4_clear_48 : decode cX4_clear 48 = .ok (.iconst 0, 1) := by decide +kernel
theorem dX4_clear_49 : decode cX4_clear 49 = .ok (.putfield 47, 3) := by decide +kernel
theorem dX4_clear_52 : decode cX4_clear 52 = .ok (.aload_n 0, 1) := by decide +kernel
theorem dX4_clear_53 : decode cX4_clear 53 = .ok (.iconst 0, 1) := by decide +kernel
theorem dX4_clear_54 : decode cX4_clear 54 = .ok (.putfield 50, 3) := by decide +kernel
theorem dX4_clear_57 : decode cX4_clear 57 = .ok (.aload_n 0, 1) := by decide +kernel
theorem dX4_clear_58 : decode cX4_clear 58 = .ok (.iconst 0, 1) := by decide +kernel
theorem dX4_clear_59 : decode cX4_clear 59 = .ok (.putfield 53, 3) := by decide +kernel
theorem dX4_clear_62 : decode cX4_clear 62 = .ok (.aload_n 0, 1) := by decide +kernel
theorem dX4_clear_63 : decode cX4_clear 63 = .ok (.iconst 0, 1) := by decide +kernel
theorem dX4_clear_64 : decode cX4_clear 64 = .ok (.putfield 56, 3) := by decide +kernel
theorem dX4_clear_67 : decode cX4_clear 67 = .ok (.aload_n 0, 1) := by decide +kernel
theorem dX4_clear_68 : decode cX4_clear 68 = .ok (.iconst 0, 1) := by decide +kernel
theorem dX4_clear_69 : decode cX4_clear 69 = .ok (.putfield 59, 3) := by decide +kernel
theorem dX4_clear_72 : decode cX4_clear 72 = .ok (.return_, 1) := by decide +kernel
set_option maxRecDepth 20000 in
theorem ggX4_setColumn_X4_setFree : GoodIn wsX4_setColumn wsX4_setFree := goodIn_r _ [10, 11, 12, 13, 14, 15, 16, 17, 18, 19, 20, 21, 22, 23, 24, 25, 26, 27, 28] (by decide +kernel) (by decide +kernel)
set_option maxRecDepth 20000 in
theorem gX4_setColumn_X4_setFree : GoodIn wsX4_setColumn (wsV RX4 62 RX4 yX4_setFree wsX4_setFree) := goodIn_app (goodIn_of _ (by decide +kernel)) ggX4_setColumn_X4_setFree
theorem dX4_setColumn_0 : decode cX4_setColumn 0 = .ok (.iload_n 1, 1) := by decide +kernel
theorem dX4_setColumn_1 : decode cX4_setColumn 1 = .ok (.ifCond .lt 8, 3) := by decide +kernel
theorem dX4_setColumn_4 : decode cX4_setColumn 4 = .ok (.iload_n 1, 1) := by decide +kernel
theorem dX4_setColumn_5 : decode cX4_setColumn 5 = .ok (.iconst 5, 1) := by decide +kernel
theorem dX4_setColumn_6 : decode cX4_setColumn 6 = .ok (.if_icmp .lt 4, 3) := by decide +kernel
theorem dX4_setColumn_9 : decode cX4_setColumn 9 = .ok (.return_, 1) := by decide +kernel
theorem dX4_setColumn_10 : decode cX4_setColumn 10 = .ok (.aload_n 0, 1) := by decide +kernel
theorem dX4_setColumn_11 : decode cX4_setColumn 11 = .ok (.getfield 33, 3) := by decide +kernel
theorem dX4_setColumn_14 : decode cX4_setColumn 14 = .ok (.iload_n 1, 1) := by decide +kernel
theorem dX4_setColumn_15 : decode cX4_setColumn 15 = .ok (.iload_n 2, 1) := by decide +kernel
theorem dX4_setColumn_16 : decode cX4_setColumn 16 = .ok (.iastore, 1) := by decide +kernel
theorem dX4_setColumn_17 : decode cX4_setColumn 17 = .ok (.aload_n 0, 1) := by decide +kernel
theorem dX4_setColumn_18 : decode cX4_setColumn 18 = .ok (.getfield 27, 3) := by decide +kernel
theorem dX4_setColumn_21 : decode cX4_setColumn 21 = .ok (.iload_n 1, 1) := by decide +kernel
theorem dX4_setColumn_22 : decode cX4_setColumn 22 = .ok (.iload_n 3, 1) := by decide +kernel
theorem dX4_setColumn_23 : decode cX4_setColumn 23 = .ok (.iastore, 1) := by decide +kernel
theorem dX4_setColumn_24 : decode cX4_setColumn 24 = .ok (.aload_n 0, 1) := by decide +kernel
theorem dX4_setColumn_25 : decode cX4_setColumn 25 = .ok (.getfield 30, 3) := by decide +kernel
theorem dX4_setColumn_28 : decode cX4_setColumn 28 = .ok (.iload_n 1, 1) := by decide +kernel
theorem dX4_setColumn_29 : decode cX4_setColumn 29 = .ok (.iload 4, 2) := by decide +kernel
theorem dX4_setColumn_31 : decode cX4_setColumn 31 = .ok (.iastore, 1) := by decide +kernel
theorem dX4_setColumn_32 : decode cX4_setColumn 32 = .ok (.aload_n 0, 1) := by decide +kernel
theorem dX4_setColumn_33 : decode cX4_setColumn 33 = .ok (.getfield 15, 3) := by decide +kernel
theorem dX4_setColumn_36 : decode cX4_setColumn 36 = .ok (.iload_n 1, 1) := by decide +kernel
theorem dX4_setColumn_37 : decode cX4_setColumn 37 = .ok (.iload 5, 2) := by decide +kernel
theorem dX4_setColumn_39 : decode cX4_setColumn 39 = .ok (.iastore, 1) := by decide +kernel
theorem dX4_setColumn_40 : decode cX4_setColumn 40 = .ok (.aload_n 0, 1) := by decide +kernel
theorem dX4_setColumn_41 : decode cX4_setColumn 41 = .ok (.getfield 36, 3) := by decide +kernel
theorem dX4_setColumn_44 : decode cX4_setColumn 44 = .ok (.iload_n 1, 1) := by decide +kernel
theorem dX4_setColumn_45 : decode cX4_setColumn 45 = .ok (.iload_n 1, 1) := by decide +kernel
theorem dX4_setColumn_46 : decode cX4_setColumn 46 = .ok (.iastore, 1) := by decide +kernel
theorem dX4_setColumn_47 : decode cX4_setColumn 47 = .ok (.aload_n 0, 1) := by decide +kernel
theorem dX4_setColumn_48 : decode cX4_setColumn 48 = .ok (.iload_n 1, 1) := by decide +kernel
theorem dX4_setColumn_49 : decode cX4_setColumn 49 = .ok (.invokevirtual 62, 3) := by decide +kernel
theorem dX4_setColumn_52 : decode cX4_setColumn 52 = .ok (.return_, 1) := by decide +kernel
theorem dX4_copyFrom_0 : decode cX4_copyFrom 0 = .ok (.iconst 0, 1) := by decide +kernel
theorem dX4_copyFrom_1 : decode cX4_copyFrom 1 = .ok (.istore_n 2, 1) := by decide +kernel
theorem dX4_copyFrom_2 : decode cX4_copyFrom 2 = .ok (.iload_n 2, 1) := by decide +kernel
theorem dX4_copyFrom_3 : decode cX4_copyFrom 3 = .ok (.iconst 5, 1) := by decide +kernel
theorem dX4_copyFrom_4 : decode cX4_copyFrom 4 = .ok (.if_icmp .ge 21, 3) := by decide +kernel
theorem dX4_copyFrom_7 : decode cX4_copyFrom 7 = .ok (.aload_n 0, 1) := by decide +kernel
theorem dX4_copyFrom_8 : decode cX4_copyFrom 8 = .ok (.getfield 9, 3) := by decide +kernel
theorem dX4_copyFrom_11 : decode cX4_copyFrom 11 = .ok (.iload_n 2, 1) := by decide +kernel
theorem dX4_copyFrom_12 : decode cX4_copyFrom 12 = .ok (.aload_n 1, 1) := by decide +kernel
theorem dX4_copyFrom_13 : decode cX4_copyFrom 13 = .ok (.getfield 9, 3) := by decide +kernel
theorem dX4_copyFrom_16 : decode cX4_copyFrom 16 = .ok (.iload_n 2, 1) := by decide +kernel
theorem dX4_copyFrom_17 : decode cX4_copyFrom 17 = .ok (.iaload, 1) := by decide +kernel
theorem dX4_copyFrom_18 : decode cX4_copyFrom 18 = .ok (.iastore, 1) := by decide +kernel
theorem dX4_copyFrom_19 : decode cX4_copyFrom 19 = .ok (.iinc 2 1, 3) := by decide +kernel
theorem dX4_copyFrom_22 : decode cX4_copyFrom 22 = .ok (.goto (-20), 3) := by decide +kernel
theorem dX4_copyFrom_25 : decode cX4_copyFrom 25 = .ok (.iconst 0, 1) := by decide +kernel
theorem dX4_copyFrom_26 : decode cX4_copyFrom 26 = .ok (.istore_n 2, 1) := by decide +kernel
theorem dX4_copyFrom_27 : decode cX4_copyFrom 27 = .ok (.iload_n 2, 1) := by decide +kernel
theorem dX4_copyFrom_28 : decode cX4_copyFrom 28 = .ok (.iconst 5, 1) := by decide +kernel
theorem dX4_copyFrom_29 : decode cX4_copyFrom 29 = .ok (.if_icmp .ge 105, 3) := by decide +kernel
theorem dX4_copyFrom_32 : decode cX4_copyFrom 32 = .ok (.aload_n 0, 1) := by decide +kernel
theorem dX4_copyFrom_33 : decode cX4_copyFrom 33 = .ok (.getfield 15, 3) := by decide +kernel
theorem dX4_copyFrom_36 : decode cX4_copyFrom 36 = .ok (.iload_n 2, 1) := by decide +kernel
theorem dX4_copyFrom_37 : decode cX4_copyFrom 37 = .ok (.aload_n 1, 1) := by decide +kernel
theorem dX4_copyFrom_38 : decode cX4_copyFrom 38 = .ok (.getfield 15, 3) := by decide +kernel
theorem dX4_copyFrom_41 : decode cX4_copyFrom 41 = .ok (.iload_n 2, 1) := by decide +kernel
theorem dX4_copyFrom_42 : decode cX4_copyFrom 42 = .ok (.iaload, 1) := by decide +kernel
theorem dX4_copyFrom_43 : decode cX4_copyFrom 43 = .ok (.iastore, 1) := by decide +kernel
theorem dX4_copyFrom_44 : decode cX4_copyFrom 44 = .ok (.aload_n 0, 1) := by decide +kernel
theorem dX4_copyFrom_45 : decode cX4_copyFrom 45 = .ok (.getfield 18, 3) := by decide +kernel
theorem dX4_copyFrom_48 : decode cX4_copyFrom 48 = .ok (.iload_n 2, 1) := by decide +kernel
theorem dX4_copyFrom_49 : decode cX4_copyFrom 49 = .ok (.aload_n 1, 1) := by decide +kernel
theorem dX4_copyFrom_50 : decode cX4_copyFrom 50 = .ok (.getfield 18, 3) := by decide +kernel
theorem dX4_copyFrom_53 : decode cX4_copyFrom 53 = .ok (.iload_n 2, 1) := by decide +kernel
theorem dX4_copyFrom_54 : decode cX4_copyFrom 54 = .ok (.iaload, 1) := by decide +kernel
theorem dX4_copyFrom_55 : decode cX4_copyFrom 55 = .ok (.iastore, 1) := by decide +kernel
theorem dX4_copyFrom_56 : decode cX4_copyFrom 56 = .ok (.aload_n 0, 1) := by decide +kernel
theorem dX4_copyFrom_57 : decode cX4_copyFrom 57 = .ok (.getfield 21, 3) := by decide +kernel
theorem dX4_copyFrom_60 : decode cX4_copyFrom 60 = .ok (.iload_n 2, 1) := by decide +kernel
theorem dX4_copyFrom_61 : decode cX4_copyFrom 61 = .ok (.aload_n 1, 1) := by decide +kernel
theorem dX4_copyFrom_62 : decode cX4_copyFrom 62 = .ok (.getfield 21, 3) := by decide +kernel
theorem dX4_copyFrom_65 : decode cX4_copyFrom 65 = .ok (.iload_n 2, 1) := by decide +kernel
theorem dX4_copyFrom_66 : decode cX4_copyFrom 66 = .ok (.iaload, 1) := by decide +kernel
theorem dX4_copyFrom_67 : decode cX4_copyFrom 67 = .ok (.iastore, 1) := by decide +kernel
theorem dX4_copyFrom_68 : decode cX4_copyFrom 68 = .ok (.aload_n 0, 1) := by decide +kernel
theorem dX4_copyFrom_69 : decode cX4_copyFrom 69 = .ok (.getfield 24, 3) := by decide +kernel
theorem dX4_copyFrom_72 : decode cX4_copyFrom 72 = .ok (.iload_n 2, 1) := by decide +kernel
theorem dX4_copyFrom_73 : decode cX4_copyFrom 73 = .ok (.aload_n 1, 1) := by decide +kernel
theorem dX4_copyFrom_74 : decode cX4_copyFrom 74 = .ok (.getfield 24, 3) := by decide +kernel
theorem dX4_copyFrom_77 : decode cX4_copyFrom 77 = .ok (.iload_n 2, 1) := by decide +kernel
theorem dX4_copyFrom_78 : decode cX4_copyFrom 78 = .ok (.iaload, 1) := by decide +kernel
theorem dX4_copyFrom_79 : decode cX4_copyFrom 79 = .ok (.iastore, 1) := by decide +kernel
theorem dX4_copyFrom_80 : decode cX4_copyFrom 80 = .ok (.aload_n 0, 1) := by decide +kernel
theorem dX4_copyFrom_81 : decode cX4_copyFrom 81 = .ok (.getfield 27, 3) := by decide +kernel
theorem dX4_copyFrom_84 : decode cX4_copyFrom 84 = .ok (.iload_n 2, 1) := by decide +kernel
theorem dX4_copyFrom_85 : decode cX4_copyFrom 85 = .ok (.aload_n 1, 1) := by decide +kernel
theorem dX4_copyFrom_86 : decode cX4_copyFrom 86 = .ok (.getfield 27, 3) := by decide +kernel
theorem dX4_copyFrom_89 : decode cX4_copyFrom 89 = .ok (.iload_n 2, 1) := by decide +kernel
theorem dX4_copyFrom_90 : decode cX4_copyFrom 90 = .ok (.iaload, 1) := by decide +kernel
theorem dX4_copyFrom_91 : decode cX4_copyFrom 91 = .ok (.iastore, 1) := by decide +kernel
theorem dX4_copyFrom_92 : decode cX4_copyFrom 92 = .ok (.aload_n 0, 1) := by decide +kernel
theorem dX4_copyFrom_93 : decode cX4_copyFrom 93 = .ok (.getfield 30, 3) := by decide +kernel
theorem dX4_copyFrom_96 : decode cX4_copyFrom 96 = .ok (.iload_n 2, 1) := by decide +kernel
theorem dX4_copyFrom_97 : decode cX4_copyFrom 97 = .ok (.aload_n 1, 1) := by decide +kernel
theorem dX4_copyFrom_98 : decode cX4_copyFrom 98 = .ok (.getfield 30, 3) := by decide +kernel
theorem dX4_copyFrom_101 : decode cX4_copyFrom 101 = .ok (.iload_n 2, 1) := by decide +kernel
theorem dX4_copyFrom_102 : decode cX4_copyFrom 102 = .ok (.iaload, 1) := by decide +kernel
theorem dX4_copyFrom_103 : decode cX4_copyFrom 103 = .ok (.iastore, 1) := by decide +kernel
theorem dX4_copyFrom_104 : decode cX4_copyFrom 104 = .ok (.aload_n 0, 1) := by decide +kernel
theorem dX4_copyFrom_105 : decode cX4_copyFrom 105 = .ok (.getfield 33, 3) := by decide +kernel
theorem dX4_copyFrom_108 : decode cX4_copyFrom 108 = .ok (.iload_n 2, 1) := by decide +kernel
theorem dX4_copyFrom_109 : decode cX4_copyFrom 109 = .ok (.aload_n 1, 1) := by decide +kernel
theorem dX4_copyFrom_110 : decode cX4_copyFrom 110 = .ok (.getfield 33, 3) := by decide +kernel
theorem dX4_copyFrom_113 : decode cX4_copyFrom 113 = .ok (.iload_n 2, 1) := by decide +kernel
theorem dX4_copyFrom_114 : decode cX4_copyFrom 114 = .ok (.iaload, 1) := by decide +kernel
theorem dX4_copyFrom_115 : decode cX4_copyFrom 115 = .ok (.iastore, 1) := by decide +kernel
theorem dX4_copyFrom_116 : decode cX4_copyFrom 116 = .ok (.aload_n 0, 1) := by decide +kernel
theorem dX4_copyFrom_117 : decode cX4_copyFrom 117 = .ok (.getfield 36, 3) := by decide +kernel
theorem dX4_copyFrom_120 : decode cX4_copyFrom 120 = .ok (.iload_n 2, 1) := by decide +kernel
theorem dX4_copyFrom_121 : decode cX4_copyFrom 121 = .ok (.aload_n 1, 1) := by decide +kernel
theorem dX4_copyFrom_122 : decode cX4_copyFrom 122 = .ok (.getfield 36, 3) := by decide +kernel
theorem dX4_copyFrom_125 : decode cX4_copyFrom 125 = .ok (.iload_n 2, 1) := by decide +kernel
theorem dX4_copyFrom_126 : decode cX4_copyFrom 126 = .ok (.iaload, 1) := by decide +kernel
theorem dX4_copyFrom_127 : decode cX4_copyFrom 127 = .ok (.iastore, 1) := by decide +kernel
theorem dX4_copyFrom_128 : decode cX4_copyFrom 128 = .ok (.iinc 2 1, 3) := by decide +kernel
theorem dX4_copyFrom_131 : decode cX4_copyFrom 131 = .ok (.goto (-104), 3) := by decide +kernel
theorem dX4_copyFrom_134 : decode cX4_copyFrom 134 = .ok (.aload_n 0, 1) := by decide +kernel
theorem dX4_copyFrom_135 : decode cX4_copyFrom 135 = .ok (.aload_n 1, 1) := by decide +kernel
theorem dX4_copyFrom_136 : decode cX4_copyFrom 136 = .ok (.getfield 43, 3) := by decide +kernel
theorem dX4_copyFrom_139 : decode cX4_copyFrom 139 = .ok (.putfield 43, 3) := by decide +kernel
theorem dX4_copyFrom_142 : decode cX4_copyFrom 142 = .ok (.aload_n 0, 1) := by decide +kernel
theorem dX4_copyFrom_143 : decode cX4_copyFrom 143 = .ok (.aload_n 1, 1) := by decide +kernel
theorem dX4_copyFrom_144 : decode cX4_copyFrom 144 = .ok (.getfield 47, 3) := by decide +kernel
theorem dX4_copyFrom_147 : decode cX4_copyFrom 147 = .ok (.putfield 47, 3) := by decide +kernel
theorem dX4_copyFrom_150 : decode cX4_copyFrom 150 = .ok (.aload_n 0, 1) := by decide +kernel
theorem dX4_copyFrom_151 : decode cX4_copyFrom 151 = .ok (.aload_n 1, 1) := by decide +kernel
theorem dX4_copyFrom_152 : decode cX4_copyFrom 152 = .ok (.getfield 50, 3) := by decide +kernel
theorem dX4_copyFrom_155 : decode cX4_copyFrom 155 = .ok (.putfield 50, 3) := by decide +kernel
theorem dX4_copyFrom_158 : decode cX4_copyFrom 158 = .ok (.aload_n 0, 1) := by decide +kernel
theorem dX4_copyFrom_159 : decode cX4_copyFrom 159 = .ok (.aload_n 1, 1) := by decide +kernel
theorem dX4_copyFrom_160 : decode cX4_copyFrom 160 = .ok (.getfield 53, 3) := by decide +kernel
theorem dX4_copyFrom_163 : decode cX4_copyFrom 163 = .ok (.putfield 53, 3) := by decide +kernel
theorem dX4_copyFrom_166 : decode cX4_copyFrom 166 = .ok (.aload_n 0, 1) := by decide +kernel
theorem dX4_copyFrom_167 : decode cX4_copyFrom 167 = .ok (.aload_n 1, 1) := by decide +kernel
theorem dX4_copyFrom_168 : decode cX4_copyFrom 168 = .ok (.getfield 56, 3) := by decide +kernel
theorem dX4_copyFrom_171 : decode cX4_copyFrom 171 = .ok (.putfield 56, 3) := by decide +kernel
theorem dX4_copyFrom_174 : decode cX4_copyFrom 174 = .ok (.aload_n 0, 1) := by decide +kernel
theorem dX4_copyFrom_175 : decode cX4_copyFrom 175 = .ok (.aload_n 1, 1) := by decide +kernel
theorem dX4_copyFrom_176 : decode cX4_copyFrom 176 = .ok (.getfield 59, 3) := by decide +kernel
theorem dX4_copyFrom_179 : decode cX4_copyFrom 179 = .ok (.putfield 59, 3) := by decide +kernel
theorem dX4_copyFrom_182 : decode cX4_copyFrom 182 = .ok (.return_, 1) := by decide +kernel
theorem dX4_holdsLike_0 : decode cX4_holdsLike 0 = .ok (.iconst 0, 1) := by decide +kernel
theorem dX4_holdsLike_1 : decode cX4_holdsLike 1 = .ok (.istore_n 2, 1) := by decide +kernel
theorem dX4_holdsLike_2 : decode cX4_holdsLike 2 = .ok (.iload_n 2, 1) := by decide +kernel
theorem dX4_holdsLike_3 : decode cX4_holdsLike 3 = .ok (.iconst 5, 1) := by decide +kernel
theorem dX4_holdsLike_4 : decode cX4_holdsLike 4 = .ok (.if_icmp .ge 26, 3) := by decide +kernel
theorem dX4_holdsLike_7 : decode cX4_holdsLike 7 = .ok (.aload_n 0, 1) := by decide +kernel
theorem dX4_holdsLike_8 : decode cX4_holdsLike 8 = .ok (.getfield 9, 3) := by decide +kernel
theorem dX4_holdsLike_11 : decode cX4_holdsLike 11 = .ok (.iload_n 2, 1) := by decide +kernel
theorem dX4_holdsLike_12 : decode cX4_holdsLike 12 = .ok (.iaload, 1) := by decide +kernel
theorem dX4_holdsLike_13 : decode cX4_holdsLike 13 = .ok (.aload_n 1, 1) := by decide +kernel
theorem dX4_holdsLike_14 : decode cX4_holdsLike 14 = .ok (.getfield 9, 3) := by decide +kernel
theorem dX4_holdsLike_17 : decode cX4_holdsLike 17 = .ok (.iload_n 2, 1) := by decide +kernel
theorem dX4_holdsLike_18 : decode cX4_holdsLike 18 = .ok (.iaload, 1) := by decide +kernel
theorem dX4_holdsLike_19 : decode cX4_holdsLike 19 = .ok (.if_icmp .eq 5, 3) := by decide +kernel
theorem dX4_holdsLike_22 : decode cX4_holdsLike 22 = .ok (.iconst 0, 1) := by decide +kernel
theorem dX4_holdsLike_23 : decode cX4_holdsLike 23 = .ok (.ireturn, 1) := by decide +kernel
theorem dX4_holdsLike_24 : decode cX4_holdsLike 24 = .ok (.iinc 2 1, 3) := by decide +kernel
theorem dX4_holdsLike_27 : decode cX4_holdsLike 27 = .ok (.goto (-25), 3) := by decide +kernel
theorem dX4_holdsLike_30 : decode cX4_holdsLike 30 = .ok (.iconst 0, 1) := by decide +kernel
theorem dX4_holdsLike_31 : decode cX4_holdsLike 31 = .ok (.istore_n 2, 1) := by decide +kernel
theorem dX4_holdsLike_32 : decode cX4_holdsLike 32 = .ok (.iload_n 2, 1) := by decide +kernel
theorem dX4_holdsLike_33 : decode cX4_holdsLike 33 = .ok (.iconst 5, 1) := by decide +kernel
theorem dX4_holdsLike_34 : decode cX4_holdsLike 34 = .ok (.if_icmp .ge 26, 3) := by decide +kernel
theorem dX4_holdsLike_37 : decode cX4_holdsLike 37 = .ok (.aload_n 0, 1) := by decide +kernel
theorem dX4_holdsLike_38 : decode cX4_holdsLike 38 = .ok (.getfield 15, 3) := by decide +kernel
theorem dX4_holdsLike_41 : decode cX4_holdsLike 41 = .ok (.iload_n 2, 1) := by decide +kernel
