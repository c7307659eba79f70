theorem dX6_init_0 : decode cX6_init 0 = .ok (.aload_n 0, 1) := by decide +kernel
theorem dX6_init_1 : decode cX6_init 1 = .ok (.invokespecial 3, 3) := by decide +kernel
theorem dX6_init_4 : decode cX6_init 4 = .ok (.aload_n 0, 1) := by decide +kernel
theorem dX6_init_5 : decode cX6_init 5 = .ok (.bipush 10, 2) := by decide +kernel
theorem dX6_init_7 : decode cX6_init 7 = .ok (.newarray .int, 2) := by decide +kernel
theorem dX6_init_9 : decode cX6_init 9 = .ok (.putfield 9, 3) := by decide +kernel
theorem dX6_init_12 : decode cX6_init 12 = .ok (.aload_n 0, 1) := by decide +kernel
theorem dX6_init_13 : decode cX6_init 13 = .ok (.bipush 10, 2) := by decide +kernel
theorem dX6_init_15 : decode cX6_init 15 = .ok (.newarray .int, 2) := by decide +kernel
theorem dX6_init_17 : decode cX6_init 17 = .ok (.putfield 15, 3) := by decide +kernel
theorem dX6_init_20 : decode cX6_init 20 = .ok (.aload_n 0, 1) := by decide +kernel
theorem dX6_init_21 : decode cX6_init 21 = .ok (.bipush 10, 2) := by decide +kernel
theorem dX6_init_23 : decode cX6_init 23 = .ok (.newarray .boolean, 2) := by decide +kernel
theorem dX6_init_25 : decode cX6_init 25 = .ok (.putfield 18, 3) := by decide +kernel
theorem dX6_init_28 : decode cX6_init 28 = .ok (.return_, 1) := by decide +kernel
theorem dX6_add_0 : decode cX6_add 0 = .ok (.aload_n 0, 1) := by decide +kernel
theorem dX6_add_1 : decode cX6_add 1 = .ok (.getfield 22, 3) := by decide +kernel
theorem dX6_add_4 : decode cX6_add 4 = .ok (.bipush 10, 2) := by decide +kernel
theorem dX6_add_6 : decode cX6_add 6 = .ok (.if_icmp .lt 5, 3) := by decide +kernel
theorem dX6_add_9 : decode cX6_add 9 = .ok (.iconst 0, 1) := by decide +kernel
theorem dX6_add_10 : decode cX6_add 10 = .ok (.ireturn, 1) := by decide +kernel
theorem dX6_add_11 : decode cX6_add 11 = .ok (.aload_n 0, 1) := by decide +kernel
theorem dX6_add_12 : decode cX6_add 12 = .ok (.getfield 9, 3) := by decide +kernel
theorem dX6_add_15 : decode cX6_add 15 = .ok (.aload_n 0, 1) := by decide +kernel
theorem dX6_add_16 : decode cX6_add 16 = .ok (.getfield 22, 3) := by decide +kernel
theorem dX6_add_19 : decode cX6_add 19 = .ok (.iload_n 1, 1) := by decide +kernel
theorem dX6_add_20 : decode cX6_add 20 = .ok (.iastore, 1) := by decide +kernel
theorem dX6_add_21 : decode cX6_add 21 = .ok (.aload_n 0, 1) := by decide +kernel
theorem dX6_add_22 : decode cX6_add 22 = .ok (.getfield 15, 3) := by decide +kernel
theorem dX6_add_25 : decode cX6_add 25 = .ok (.aload_n 0, 1) := by decide +kernel
theorem dX6_add_26 : decode cX6_add 26 = .ok (.getfield 22, 3) := by decide +kernel
theorem dX6_add_29 : decode cX6_add 29 = .ok (.iload_n 2, 1) := by decide +kernel
theorem dX6_add_30 : decode cX6_add 30 = .ok (.iastore, 1) := by decide +kernel
theorem dX6_add_31 : decode cX6_add 31 = .ok (.aload_n 0, 1) := by decide +kernel
theorem dX6_add_32 : decode cX6_add 32 = .ok (.getfield 18, 3) := by decide +kernel
theorem dX6_add_35 : decode cX6_add 35 = .ok (.aload_n 0, 1) := by decide +kernel
theorem dX6_add_36 : decode cX6_add 36 = .ok (.getfield 22, 3) := by decide +kernel
theorem dX6_add_39 : decode cX6_add 39 = .ok (.iload_n 3, 1) := by decide +kernel
theorem dX6_add_40 : decode cX6_add 40 = .ok (.bastore, 1) := by decide +kernel
theorem dX6_add_41 : decode cX6_add 41 = .ok (.aload_n 0, 1) := by decide +kernel
theorem dX6_add_42 : decode cX6_add 42 = .ok (.dup, 1) := by decide +kernel
theorem dX6_add_43 : decode cX6_add 43 = .ok (.getfield 22, 3) := by decide +kernel
theorem dX6_add_46 : decode cX6_add 46 = .ok (.iconst 1, 1) := by decide +kernel
theorem dX6_add_47 : decode cX6_add 47 = .ok (.iadd, 1) := by decide +kernel
theorem dX6_add_48 : decode cX6_add 48 = .ok (.putfield 22, 3) := by decide +kernel
theorem dX6_add_51 : decode cX6_add 51 = .ok (.iconst 1, 1) := by decide +kernel
theorem dX6_add_52 : decode cX6_add 52 = .ok (.ireturn, 1) := by decide +kernel
set_option maxRecDepth 20000 in
theorem ggX6_allow_X6_kicksUntilFree : GoodIn wsX6_allow wsX6_kicksUntilFree := goodIn_r _ [8, 3, 9, 10, 11, 12, 13] (by decide +kernel) (by decide +kernel)
set_option maxRecDepth 20000 in
theorem gX6_allow_X6_kicksUntilFree : GoodIn wsX6_allow (wsV RX6 26 RX6 yX6_kicksUntilFree wsX6_kicksUntilFree) := goodIn_app (goodIn_of _ (by decide +kernel)) ggX6_allow_X6_kicksUntilFree
theorem dX6_allow_0 : decode cX6_allow 0 = .ok (.iconst 0, 1) := by decide +kernel
theorem dX6_allow_1 : decode cX6_allow 1 = .ok (.istore_n 3, 1) := by decide +kernel
theorem dX6_allow_2 : decode cX6_allow 2 = .ok (.iload_n 3, 1) := by decide +kernel
theorem dX6_allow_3 : decode cX6_allow 3 = .ok (.aload_n 0, 1) := by decide +kernel
theorem dX6_allow_4 : decode cX6_allow 4 = .ok (.getfield 22, 3) := by decide +kernel
theorem dX6_allow_7 : decode cX6_allow 7 = .ok (.if_icmp .ge 44, 3) := by decide +kernel
theorem dX6_allow_10 : decode cX6_allow 10 = .ok (.aload_n 0, 1) := by decide +kernel
theorem dX6_allow_11 : decode cX6_allow 11 = .ok (.getfield 18, 3) := by decide +kernel
theorem dX6_allow_14 : decode cX6_allow 14 = .ok (.iload_n 3, 1) := by decide +kernel
theorem dX6_allow_15 : decode cX6_allow 15 = .ok (.baload, 1) := by decide +kernel
theorem dX6_allow_16 : decode cX6_allow 16 = .ok (.ifCond .eq 12, 3) := by decide +kernel
theorem dX6_allow_19 : decode cX6_allow 19 = .ok (.aload_n 0, 1) := by decide +kernel
theorem dX6_allow_20 : decode cX6_allow 20 = .ok (.getfield 15, 3) := by decide +kernel
theorem dX6_allow_23 : decode cX6_allow 23 = .ok (.iload_n 3, 1) := by decide +kernel
theorem dX6_allow_24 : decode cX6_allow 24 = .ok (.iaload, 1) := by decide +kernel
theorem dX6_allow_25 : decode cX6_allow 25 = .ok (.goto 4, 3) := by decide +kernel
theorem dX6_allow_28 : decode cX6_allow 28 = .ok (.iconst (-1), 1) := by decide +kernel
theorem dX6_allow_29 : decode cX6_allow 29 = .ok (.istore 4, 2) := by decide +kernel
theorem dX6_allow_31 : decode cX6_allow 31 = .ok (.aload_n 0, 1) := by decide +kernel
theorem dX6_allow_32 : decode cX6_allow 32 = .ok (.iload_n 3, 1) := by decide +kernel
theorem dX6_allow_33 : decode cX6_allow 33 = .ok (.iload_n 1, 1) := by decide +kernel
theorem dX6_allow_34 : decode cX6_allow 34 = .ok (.iload_n 2, 1) := by decide +kernel
theorem dX6_allow_35 : decode cX6_allow 35 = .ok (.invokevirtual 26, 3) := by decide +kernel
theorem dX6_allow_38 : decode cX6_allow 38 = .ok (.iload 4, 2) := by decide +kernel
theorem dX6_allow_40 : decode cX6_allow 40 = .ok (.if_icmp .eq 5, 3) := by decide +kernel
theorem dX6_allow_43 : decode cX6_allow 43 = .ok (.iconst 0, 1) := by decide +kernel
theorem dX6_allow_44 : decode cX6_allow 44 = .ok (.ireturn, 1) := by decide +kernel
theorem dX6_allow_45 : decode cX6_allow 45 = .ok (.iinc 3 1, 3) := by decide +kernel
theorem dX6_allow_48 : decode cX6_allow 48 = .ok (.goto (-46), 3) := by decide +kernel
theorem dX6_allow_51 : decode cX6_allow 51 = .ok (.iconst 1, 1) := by decide +kernel
theorem dX6_allow_52 : decode cX6_allow 52 = .ok (.ireturn, 1) := by decide +kernel
theorem dX6_kicksUntilFree_0 : decode cX6_kicksUntilFree 0 = .ok (.iload_n 3, 1) := by decide +kernel
theorem dX6_kicksUntilFree_1 : decode cX6_kicksUntilFree 1 = .ok (.istore 4, 2) := by decide +kernel
theorem dX6_kicksUntilFree_3 : decode cX6_kicksUntilFree 3 = .ok (.iload 4, 2) := by decide +kernel
theorem dX6_kicksUntilFree_5 : decode cX6_kicksUntilFree 5 = .ok (.aload_n 0, 1) := by decide +kernel
theorem dX6_kicksUntilFree_6 : decode cX6_kicksUntilFree 6 = .ok (.getfield 15, 3) := by decide +kernel
theorem dX6_kicksUntilFree_9 : decode cX6_kicksUntilFree 9 = .ok (.iload_n 1, 1) := by decide +kernel
theorem dX6_kicksUntilFree_10 : decode cX6_kicksUntilFree 10 = .ok (.iaload, 1) := by decide +kernel
theorem dX6_kicksUntilFree_11 : decode cX6_kicksUntilFree 11 = .ok (.if_icmp .gt 37, 3) := by decide +kernel
theorem dX6_kicksUntilFree_14 : decode cX6_kicksUntilFree 14 = .ok (.aload_n 0, 1) := by decide +kernel
theorem dX6_kicksUntilFree_15 : decode cX6_kicksUntilFree 15 = .ok (.getfield 9, 3) := by decide +kernel
theorem dX6_kicksUntilFree_18 : decode cX6_kicksUntilFree 18 = .ok (.iload_n 1, 1) := by decide +kernel
theorem dX6_kicksUntilFree_19 : decode cX6_kicksUntilFree 19 = .ok (.iaload, 1) := by decide +kernel
theorem dX6_kicksUntilFree_20 : decode cX6_kicksUntilFree 20 = .ok (.iload 4, 2) := by decide +kernel
theorem dX6_kicksUntilFree_22 : decode cX6_kicksUntilFree 22 = .ok (.iload_n 3, 1) := by decide +kernel
theorem dX6_kicksUntilFree_23 : decode cX6_kicksUntilFree 23 = .ok (.isub, 1) := by decide +kernel
theorem dX6_kicksUntilFree_24 : decode cX6_kicksUntilFree 24 = .ok (.ishr, 1) := by decide +kernel
theorem dX6_kicksUntilFree_25 : decode cX6_kicksUntilFree 25 = .ok (.iconst 1, 1) := by decide +kernel
theorem dX6_kicksUntilFree_26 : decode cX6_kicksUntilFree 26 = .ok (.iload_n 3, 1) := by decide +kernel
theorem dX6_kicksUntilFree_27 : decode cX6_kicksUntilFree 27 = .ok (.ishl, 1) := by decide +kernel
theorem dX6_kicksUntilFree_28 : decode cX6_kicksUntilFree 28 = .ok (.iconst 1, 1) := by decide +kernel
theorem dX6_kicksUntilFree_29 : decode cX6_kicksUntilFree 29 = .ok (.isub, 1) := by decide +kernel
theorem dX6_kicksUntilFree_30 : decode cX6_kicksUntilFree 30 = .ok (.iand, 1) := by decide +kernel
theorem dX6_kicksUntilFree_31 : decode cX6_kicksUntilFree 31 = .ok (.istore 5, 2) := by decide +kernel
theorem dX6_kicksUntilFree_33 : decode cX6_kicksUntilFree 33 = .ok (.iload 5, 2) := by decide +kernel
theorem dX6_kicksUntilFree_35 : decode cX6_kicksUntilFree 35 = .ok (.iload_n 2, 1) := by decide +kernel
theorem dX6_kicksUntilFree_36 : decode cX6_kicksUntilFree 36 = .ok (.if_icmp .ne 6, 3) := by decide +kernel
theorem dX6_kicksUntilFree_39 : decode cX6_kicksUntilFree 39 = .ok (.iload 4, 2) := by decide +kernel
theorem dX6_kicksUntilFree_41 : decode cX6_kicksUntilFree 41 = .ok (.ireturn, 1) := by decide +kernel
theorem dX6_kicksUntilFree_42 : decode cX6_kicksUntilFree 42 = .ok (.iinc 4 1, 3) := by decide +kernel
theorem dX6_kicksUntilFree_45 : decode cX6_kicksUntilFree 45 = .ok (.goto (-42), 3) := by decide +kernel
theorem dX6_kicksUntilFree_48 : decode cX6_kicksUntilFree 48 = .ok (.iconst (-1), 1) := by decide +kernel
theorem dX6_kicksUntilFree_49 : decode cX6_kicksUntilFree 49 = .ok (.ireturn, 1) := by decide +kernel
