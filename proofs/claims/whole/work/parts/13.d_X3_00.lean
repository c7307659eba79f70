theorem dX3_init_0 : decode cX3_init 0 = .ok (.aload_n 0, 1) := by decide +kernel
theorem dX3_init_1 : decode cX3_init 1 = .ok (.invokespecial 3, 3) := by decide +kernel
theorem dX3_init_4 : decode cX3_init 4 = .ok (.aload_n 0, 1) := by decide +kernel
theorem dX3_init_5 : decode cX3_init 5 = .ok (.iconst 5, 1) := by decide +kernel
theorem dX3_init_6 : decode cX3_init 6 = .ok (.newarray .int, 2) := by decide +kernel
theorem dX3_init_8 : decode cX3_init 8 = .ok (.putfield 9, 3) := by decide +kernel
theorem dX3_init_11 : decode cX3_init 11 = .ok (.return_, 1) := by decide +kernel
theorem dX3_start_0 : decode cX3_start 0 = .ok (.aload_n 0, 1) := by decide +kernel
theorem dX3_start_1 : decode cX3_start 1 = .ok (.iload_n 1, 1) := by decide +kernel
theorem dX3_start_2 : decode cX3_start 2 = .ok (.iconst 5, 1) := by decide +kernel
theorem dX3_start_3 : decode cX3_start 3 = .ok (.invokestatic 15, 3) := by decide +kernel
theorem dX3_start_6 : decode cX3_start 6 = .ok (.putfield 21, 3) := by decide +kernel
theorem dX3_start_9 : decode cX3_start 9 = .ok (.aload_n 0, 1) := by decide +kernel
theorem dX3_start_10 : decode cX3_start 10 = .ok (.iload_n 2, 1) := by decide +kernel
theorem dX3_start_11 : decode cX3_start 11 = .ok (.putfield 25, 3) := by decide +kernel
theorem dX3_start_14 : decode cX3_start 14 = .ok (.iconst 0, 1) := by decide +kernel
theorem dX3_start_15 : decode cX3_start 15 = .ok (.istore_n 3, 1) := by decide +kernel
theorem dX3_start_16 : decode cX3_start 16 = .ok (.iload_n 3, 1) := by decide +kernel
theorem dX3_start_17 : decode cX3_start 17 = .ok (.iconst 5, 1) := by decide +kernel
theorem dX3_start_18 : decode cX3_start 18 = .ok (.if_icmp .ge 16, 3) := by decide +kernel
theorem dX3_start_21 : decode cX3_start 21 = .ok (.aload_n 0, 1) := by decide +kernel
theorem dX3_start_22 : decode cX3_start 22 = .ok (.getfield 9, 3) := by decide +kernel
theorem dX3_start_25 : decode cX3_start 25 = .ok (.iload_n 3, 1) := by decide +kernel
theorem dX3_start_26 : decode cX3_start 26 = .ok (.iconst 0, 1) := by decide +kernel
theorem dX3_start_27 : decode cX3_start 27 = .ok (.iastore, 1) := by decide +kernel
theorem dX3_start_28 : decode cX3_start 28 = .ok (.iinc 3 1, 3) := by decide +kernel
theorem dX3_start_31 : decode cX3_start 31 = .ok (.goto (-15), 3) := by decide +kernel
theorem dX3_start_34 : decode cX3_start 34 = .ok (.aload_n 0, 1) := by decide +kernel
theorem dX3_start_35 : decode cX3_start 35 = .ok (.getfield 21, 3) := by decide +kernel
theorem dX3_start_38 : decode cX3_start 38 = .ok (.ifCond .le 10, 3) := by decide +kernel
theorem dX3_start_41 : decode cX3_start 41 = .ok (.aload_n 0, 1) := by decide +kernel
theorem dX3_start_42 : decode cX3_start 42 = .ok (.getfield 9, 3) := by decide +kernel
theorem dX3_start_45 : decode cX3_start 45 = .ok (.iconst 0, 1) := by decide +kernel
theorem dX3_start_46 : decode cX3_start 46 = .ok (.iload_n 2, 1) := by decide +kernel
theorem dX3_start_47 : decode cX3_start 47 = .ok (.iastore, 1) := by decide +kernel
theorem dX3_start_48 : decode cX3_start 48 = .ok (.aload_n 0, 1) := by decide +kernel
theorem dX3_start_49 : decode cX3_start 49 = .ok (.getfield 21, 3) := by decide +kernel
theorem dX3_start_52 : decode cX3_start 52 = .ok (.ifCond .gt 7, 3) := by decide +kernel
theorem dX3_start_55 : decode cX3_start 55 = .ok (.iload_n 2, 1) := by decide +kernel
theorem dX3_start_56 : decode cX3_start 56 = .ok (.ifCond .ne 7, 3) := by decide +kernel
theorem dX3_start_59 : decode cX3_start 59 = .ok (.iconst 1, 1) := by decide +kernel
theorem dX3_start_60 : decode cX3_start 60 = .ok (.goto 4, 3) := by decide +kernel
theorem dX3_start_63 : decode cX3_start 63 = .ok (.iconst 0, 1) := by decide +kernel
theorem dX3_start_64 : decode cX3_start 64 = .ok (.ireturn, 1) := by decide +kernel
theorem dX3_next_0 : decode cX3_next 0 = .ok (.aload_n 0, 1) := by decide +kernel
theorem dX3_next_1 : decode cX3_next 1 = .ok (.getfield 21, 3) := by decide +kernel
theorem dX3_next_4 : decode cX3_next 4 = .ok (.iconst 2, 1) := by decide +kernel
theorem dX3_next_5 : decode cX3_next 5 = .ok (.if_icmp .ge 5, 3) := by decide +kernel
theorem dX3_next_8 : decode cX3_next 8 = .ok (.iconst 0, 1) := by decide +kernel
theorem dX3_next_9 : decode cX3_next 9 = .ok (.ireturn, 1) := by decide +kernel
theorem dX3_next_10 : decode cX3_next 10 = .ok (.aload_n 0, 1) := by decide +kernel
theorem dX3_next_11 : decode cX3_next 11 = .ok (.getfield 9, 3) := by decide +kernel
theorem dX3_next_14 : decode cX3_next 14 = .ok (.aload_n 0, 1) := by decide +kernel
theorem dX3_next_15 : decode cX3_next 15 = .ok (.getfield 21, 3) := by decide +kernel
theorem dX3_next_18 : decode cX3_next 18 = .ok (.iconst 1, 1) := by decide +kernel
theorem dX3_next_19 : decode cX3_next 19 = .ok (.isub, 1) := by decide +kernel
theorem dX3_next_20 : decode cX3_next 20 = .ok (.iaload, 1) := by decide +kernel
theorem dX3_next_21 : decode cX3_next 21 = .ok (.istore_n 1, 1) := by decide +kernel
theorem dX3_next_22 : decode cX3_next 22 = .ok (.aload_n 0, 1) := by decide +kernel
theorem dX3_next_23 : decode cX3_next 23 = .ok (.getfield 9, 3) := by decide +kernel
theorem dX3_next_26 : decode cX3_next 26 = .ok (.aload_n 0, 1) := by decide +kernel
theorem dX3_next_27 : decode cX3_next 27 = .ok (.getfield 21, 3) := by decide +kernel
theorem dX3_next_30 : decode cX3_next 30 = .ok (.iconst 1, 1) := by decide +kernel
theorem dX3_next_31 : decode cX3_next 31 = .ok (.isub, 1) := by decide +kernel
theorem dX3_next_32 : decode cX3_next 32 = .ok (.iconst 0, 1) := by decide +kernel
theorem dX3_next_33 : decode cX3_next 33 = .ok (.iastore, 1) := by decide +kernel
theorem dX3_next_34 : decode cX3_next 34 = .ok (.aload_n 0, 1) := by decide +kernel
theorem dX3_next_35 : decode cX3_next 35 = .ok (.getfield 21, 3) := by decide +kernel
theorem dX3_next_38 : decode cX3_next 38 = .ok (.iconst 2, 1) := by decide +kernel
theorem dX3_next_39 : decode cX3_next 39 = .ok (.isub, 1) := by decide +kernel
theorem dX3_next_40 : decode cX3_next 40 = .ok (.istore_n 2, 1) := by decide +kernel
theorem dX3_next_41 : decode cX3_next 41 = .ok (.iload_n 2, 1) := by decide +kernel
theorem dX3_next_42 : decode cX3_next 42 = .ok (.ifCond .lt 41, 3) := by decide +kernel
theorem dX3_next_45 : decode cX3_next 45 = .ok (.aload_n 0, 1) := by decide +kernel
theorem dX3_next_46 : decode cX3_next 46 = .ok (.getfield 9, 3) := by decide +kernel
theorem dX3_next_49 : decode cX3_next 49 = .ok (.iload_n 2, 1) := by decide +kernel
theorem dX3_next_50 : decode cX3_next 50 = .ok (.iaload, 1) := by decide +kernel
theorem dX3_next_51 : decode cX3_next 51 = .ok (.ifCond .le 26, 3) := by decide +kernel
theorem dX3_next_54 : decode cX3_next 54 = .ok (.aload_n 0, 1) := by decide +kernel
theorem dX3_next_55 : decode cX3_next 55 = .ok (.getfield 9, 3) := by decide +kernel
theorem dX3_next_58 : decode cX3_next 58 = .ok (.iload_n 2, 1) := by decide +kernel
theorem dX3_next_59 : decode cX3_next 59 = .ok (.dup2, 1) := by decide +kernel
theorem dX3_next_60 : decode cX3_next 60 = .ok (.iaload, 1) := by decide +kernel
theorem dX3_next_61 : decode cX3_next 61 = .ok (.iconst 1, 1) := by decide +kernel
theorem dX3_next_62 : decode cX3_next 62 = .ok (.isub, 1) := by decide +kernel
theorem dX3_next_63 : decode cX3_next 63 = .ok (.iastore, 1) := by decide +kernel
theorem dX3_next_64 : decode cX3_next 64 = .ok (.aload_n 0, 1) := by decide +kernel
theorem dX3_next_65 : decode cX3_next 65 = .ok (.getfield 9, 3) := by decide +kernel
theorem dX3_next_68 : decode cX3_next 68 = .ok (.iload_n 2, 1) := by decide +kernel
theorem dX3_next_69 : decode cX3_next 69 = .ok (.iconst 1, 1) := by decide +kernel
theorem dX3_next_70 : decode cX3_next 70 = .ok (.iadd, 1) := by decide +kernel
theorem dX3_next_71 : decode cX3_next 71 = .ok (.iload_n 1, 1) := by decide +kernel
theorem dX3_next_72 : decode cX3_next 72 = .ok (.iconst 1, 1) := by decide +kernel
theorem dX3_next_73 : decode cX3_next 73 = .ok (.iadd, 1) := by decide +kernel
theorem dX3_next_74 : decode cX3_next 74 = .ok (.iastore, 1) := by decide +kernel
theorem dX3_next_75 : decode cX3_next 75 = .ok (.iconst 1, 1) := by decide +kernel
theorem dX3_next_76 : decode cX3_next 76 = .ok (.ireturn, 1) := by decide +kernel
theorem dX3_next_77 : decode cX3_next 77 = .ok (.iinc 2 (-1), 3) := by decide +kernel
theorem dX3_next_80 : decode cX3_next 80 = .ok (.goto (-39), 3) := by decide +kernel
theorem dX3_next_83 : decode cX3_next 83 = .ok (.iconst 0, 1) := by decide +kernel
theorem dX3_next_84 : decode cX3_next 84 = .ok (.ireturn, 1) := by decide +kernel
theorem dX3_coinsOf_0 : decode cX3_coinsOf 0 = .ok (.iload_n 1, 1) := by decide +kernel
theorem dX3_coinsOf_1 : decode cX3_coinsOf 1 = .ok (.ifCond .lt 8, 3) := by decide +kernel
theorem dX3_coinsOf_4 : decode cX3_coinsOf 4 = .ok (.iload_n 1, 1) := by decide +kernel
theorem dX3_coinsOf_5 : decode cX3_coinsOf 5 = .ok (.iconst 5, 1) := by decide +kernel
theorem dX3_coinsOf_6 : decode cX3_coinsOf 6 = .ok (.if_icmp .lt 7, 3) := by decide +kernel
theorem dX3_coinsOf_9 : decode cX3_coinsOf 9 = .ok (.iconst 0, 1) := by decide +kernel
theorem dX3_coinsOf_10 : decode cX3_coinsOf 10 = .ok (.goto 9, 3) := by decide +kernel
theorem dX3_coinsOf_13 : decode cX3_coinsOf 13 = .ok (.aload_n 0, 1) := by decide +kernel
theorem dX3_coinsOf_14 : decode cX3_coinsOf 14 = .ok (.getfield 9, 3) := by decide +kernel
theorem dX3_coinsOf_17 : decode cX3_coinsOf 17 = .ok (.iload_n 1, 1) := by decide +kernel
theorem dX3_coinsOf_18 : decode cX3_coinsOf 18 = .ok (.iaload, 1) := by decide +kernel
theorem dX3_coinsOf_19 : decode cX3_coinsOf 19 = .ok (.ireturn, 1) := by decide +kernel
