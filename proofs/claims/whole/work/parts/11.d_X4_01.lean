theorem dX4_holdsLike_42 : decode cX4_holdsLike 42 = .ok (.iaload, 1) := by decide +kernel
theorem dX4_holdsLike_43 : decode cX4_holdsLike 43 = .ok (.aload_n 1, 1) := by decide +kernel
theorem dX4_holdsLike_44 : decode cX4_holdsLike 44 = .ok (.getfield 15, 3) := by decide +kernel
theorem dX4_holdsLike_47 : decode cX4_holdsLike 47 = .ok (.iload_n 2, 1) := by decide +kernel
theorem dX4_holdsLike_48 : decode cX4_holdsLike 48 = .ok (.iaload, 1) := by decide +kernel
theorem dX4_holdsLike_49 : decode cX4_holdsLike 49 = .ok (.if_icmp .eq 5, 3) := by decide +kernel
theorem dX4_holdsLike_52 : decode cX4_holdsLike 52 = .ok (.iconst 0, 1) := by decide +kernel
theorem dX4_holdsLike_53 : decode cX4_holdsLike 53 = .ok (.ireturn, 1) := by decide +kernel
theorem dX4_holdsLike_54 : decode cX4_holdsLike 54 = .ok (.iinc 2 1, 3) := by decide +kernel
theorem dX4_holdsLike_57 : decode cX4_holdsLike 57 = .ok (.goto (-25), 3) := by decide +kernel
theorem dX4_holdsLike_60 : decode cX4_holdsLike 60 = .ok (.aload_n 0, 1) := by decide +kernel
theorem dX4_holdsLike_61 : decode cX4_holdsLike 61 = .ok (.getfield 43, 3) := by decide +kernel
theorem dX4_holdsLike_64 : decode cX4_holdsLike 64 = .ok (.aload_n 1, 1) := by decide +kernel
theorem dX4_holdsLike_65 : decode cX4_holdsLike 65 = .ok (.getfield 43, 3) := by decide +kernel
theorem dX4_holdsLike_68 : decode cX4_holdsLike 68 = .ok (.if_icmp .ne 18, 3) := by decide +kernel
theorem dX4_holdsLike_71 : decode cX4_holdsLike 71 = .ok (.aload_n 0, 1) := by decide +kernel
theorem dX4_holdsLike_72 : decode cX4_holdsLike 72 = .ok (.getfield 47, 3) := by decide +kernel
theorem dX4_holdsLike_75 : decode cX4_holdsLike 75 = .ok (.aload_n 1, 1) := by decide +kernel
theorem dX4_holdsLike_76 : decode cX4_holdsLike 76 = .ok (.getfield 47, 3) := by decide +kernel
theorem dX4_holdsLike_79 : decode cX4_holdsLike 79 = .ok (.if_icmp .ne 7, 3) := by decide +kernel
theorem dX4_holdsLike_82 : decode cX4_holdsLike 82 = .ok (.iconst 1, 1) := by decide +kernel
theorem dX4_holdsLike_83 : decode cX4_holdsLike 83 = .ok (.goto 4, 3) := by decide +kernel
theorem dX4_holdsLike_86 : decode cX4_holdsLike 86 = .ok (.iconst 0, 1) := by decide +kernel
theorem dX4_holdsLike_87 : decode cX4_holdsLike 87 = .ok (.ireturn, 1) := by decide +kernel
theorem dX4_isJammed_0 : decode cX4_isJammed 0 = .ok (.aload_n 0, 1) := by decide +kernel
theorem dX4_isJammed_1 : decode cX4_isJammed 1 = .ok (.getfield 18, 3) := by decide +kernel
theorem dX4_isJammed_4 : decode cX4_isJammed 4 = .ok (.iload_n 1, 1) := by decide +kernel
theorem dX4_isJammed_5 : decode cX4_isJammed 5 = .ok (.iaload, 1) := by decide +kernel
theorem dX4_isJammed_6 : decode cX4_isJammed 6 = .ok (.bipush 10, 2) := by decide +kernel
theorem dX4_isJammed_8 : decode cX4_isJammed 8 = .ok (.if_icmp .lt 7, 3) := by decide +kernel
theorem dX4_isJammed_11 : decode cX4_isJammed 11 = .ok (.iconst 1, 1) := by decide +kernel
theorem dX4_isJammed_12 : decode cX4_isJammed 12 = .ok (.goto 4, 3) := by decide +kernel
theorem dX4_isJammed_15 : decode cX4_isJammed 15 = .ok (.iconst 0, 1) := by decide +kernel
theorem dX4_isJammed_16 : decode cX4_isJammed 16 = .ok (.ireturn, 1) := by decide +kernel
theorem dX4_addKick_0 : decode cX4_addKick 0 = .ok (.aload_n 0, 1) := by decide +kernel
theorem dX4_addKick_1 : decode cX4_addKick 1 = .ok (.getfield 21, 3) := by decide +kernel
theorem dX4_addKick_4 : decode cX4_addKick 4 = .ok (.iload_n 1, 1) := by decide +kernel
theorem dX4_addKick_5 : decode cX4_addKick 5 = .ok (.aload_n 0, 1) := by decide +kernel
theorem dX4_addKick_6 : decode cX4_addKick 6 = .ok (.getfield 21, 3) := by decide +kernel
theorem dX4_addKick_9 : decode cX4_addKick 9 = .ok (.iload_n 1, 1) := by decide +kernel
theorem dX4_addKick_10 : decode cX4_addKick 10 = .ok (.iaload, 1) := by decide +kernel
theorem dX4_addKick_11 : decode cX4_addKick 11 = .ok (.iconst 1, 1) := by decide +kernel
theorem dX4_addKick_12 : decode cX4_addKick 12 = .ok (.ishl, 1) := by decide +kernel
theorem dX4_addKick_13 : decode cX4_addKick 13 = .ok (.iload_n 2, 1) := by decide +kernel
theorem dX4_addKick_14 : decode cX4_addKick 14 = .ok (.ior, 1) := by decide +kernel
theorem dX4_addKick_15 : decode cX4_addKick 15 = .ok (.bipush 63, 2) := by decide +kernel
theorem dX4_addKick_17 : decode cX4_addKick 17 = .ok (.iand, 1) := by decide +kernel
theorem dX4_addKick_18 : decode cX4_addKick 18 = .ok (.iastore, 1) := by decide +kernel
theorem dX4_addKick_19 : decode cX4_addKick 19 = .ok (.aload_n 0, 1) := by decide +kernel
theorem dX4_addKick_20 : decode cX4_addKick 20 = .ok (.getfield 24, 3) := by decide +kernel
theorem dX4_addKick_23 : decode cX4_addKick 23 = .ok (.iload_n 1, 1) := by decide +kernel
theorem dX4_addKick_24 : decode cX4_addKick 24 = .ok (.bipush 6, 2) := by decide +kernel
theorem dX4_addKick_26 : decode cX4_addKick 26 = .ok (.aload_n 0, 1) := by decide +kernel
theorem dX4_addKick_27 : decode cX4_addKick 27 = .ok (.getfield 24, 3) := by decide +kernel
theorem dX4_addKick_30 : decode cX4_addKick 30 = .ok (.iload_n 1, 1) := by decide +kernel
theorem dX4_addKick_31 : decode cX4_addKick 31 = .ok (.iaload, 1) := by decide +kernel
theorem dX4_addKick_32 : decode cX4_addKick 32 = .ok (.iconst 1, 1) := by decide +kernel
theorem dX4_addKick_33 : decode cX4_addKick 33 = .ok (.iadd, 1) := by decide +kernel
theorem dX4_addKick_34 : decode cX4_addKick 34 = .ok (.invokestatic 66, 3) := by decide +kernel
theorem dX4_addKick_37 : decode cX4_addKick 37 = .ok (.iastore, 1) := by decide +kernel
theorem dX4_addKick_38 : decode cX4_addKick 38 = .ok (.return_, 1) := by decide +kernel
theorem dX4_setFree_0 : decode cX4_setFree 0 = .ok (.aload_n 0, 1) := by decide +kernel
theorem dX4_setFree_1 : decode cX4_setFree 1 = .ok (.getfield 18, 3) := by decide +kernel
theorem dX4_setFree_4 : decode cX4_setFree 4 = .ok (.iload_n 1, 1) := by decide +kernel
theorem dX4_setFree_5 : decode cX4_setFree 5 = .ok (.iconst 0, 1) := by decide +kernel
theorem dX4_setFree_6 : decode cX4_setFree 6 = .ok (.iastore, 1) := by decide +kernel
theorem dX4_setFree_7 : decode cX4_setFree 7 = .ok (.aload_n 0, 1) := by decide +kernel
theorem dX4_setFree_8 : decode cX4_setFree 8 = .ok (.getfield 21, 3) := by decide +kernel
theorem dX4_setFree_11 : decode cX4_setFree 11 = .ok (.iload_n 1, 1) := by decide +kernel
theorem dX4_setFree_12 : decode cX4_setFree 12 = .ok (.iconst 0, 1) := by decide +kernel
theorem dX4_setFree_13 : decode cX4_setFree 13 = .ok (.iastore, 1) := by decide +kernel
theorem dX4_setFree_14 : decode cX4_setFree 14 = .ok (.aload_n 0, 1) := by decide +kernel
theorem dX4_setFree_15 : decode cX4_setFree 15 = .ok (.getfield 24, 3) := by decide +kernel
theorem dX4_setFree_18 : decode cX4_setFree 18 = .ok (.iload_n 1, 1) := by decide +kernel
theorem dX4_setFree_19 : decode cX4_setFree 19 = .ok (.iconst 0, 1) := by decide +kernel
theorem dX4_setFree_20 : decode cX4_setFree 20 = .ok (.iastore, 1) := by decide +kernel
theorem dX4_setFree_21 : decode cX4_setFree 21 = .ok (.return_, 1) := by decide +kernel
theorem dX4_takeIn_0 : decode cX4_takeIn 0 = .ok (.iconst 0, 1) := by decide +kernel
theorem dX4_takeIn_1 : decode cX4_takeIn 1 = .ok (.aload_n 0, 1) := by decide +kernel
theorem dX4_takeIn_2 : decode cX4_takeIn 2 = .ok (.getfield 9, 3) := by decide +kernel
theorem dX4_takeIn_5 : decode cX4_takeIn 5 = .ok (.iload_n 1, 1) := by decide +kernel
theorem dX4_takeIn_6 : decode cX4_takeIn 6 = .ok (.iaload, 1) := by decide +kernel
theorem dX4_takeIn_7 : decode cX4_takeIn 7 = .ok (.iload_n 2, 1) := by decide +kernel
theorem dX4_takeIn_8 : decode cX4_takeIn 8 = .ok (.iadd, 1) := by decide +kernel
theorem dX4_takeIn_9 : decode cX4_takeIn 9 = .ok (.bipush 60, 2) := by decide +kernel
theorem dX4_takeIn_11 : decode cX4_takeIn 11 = .ok (.isub, 1) := by decide +kernel
theorem dX4_takeIn_12 : decode cX4_takeIn 12 = .ok (.invokestatic 72, 3) := by decide +kernel
theorem dX4_takeIn_15 : decode cX4_takeIn 15 = .ok (.istore_n 3, 1) := by decide +kernel
theorem dX4_takeIn_16 : decode cX4_takeIn 16 = .ok (.aload_n 0, 1) := by decide +kernel
theorem dX4_takeIn_17 : decode cX4_takeIn 17 = .ok (.getfield 9, 3) := by decide +kernel
theorem dX4_takeIn_20 : decode cX4_takeIn 20 = .ok (.iload_n 1, 1) := by decide +kernel
theorem dX4_takeIn_21 : decode cX4_takeIn 21 = .ok (.dup2, 1) := by decide +kernel
theorem dX4_takeIn_22 : decode cX4_takeIn 22 = .ok (.iaload, 1) := by decide +kernel
theorem dX4_takeIn_23 : decode cX4_takeIn 23 = .ok (.iload_n 2, 1) := by decide +kernel
theorem dX4_takeIn_24 : decode cX4_takeIn 24 = .ok (.iload_n 3, 1) := by decide +kernel
theorem dX4_takeIn_25 : decode cX4_takeIn 25 = .ok (.isub, 1) := by decide +kernel
theorem dX4_takeIn_26 : decode cX4_takeIn 26 = .ok (.iadd, 1) := by decide +kernel
theorem dX4_takeIn_27 : decode cX4_takeIn 27 = .ok (.iastore, 1) := by decide +kernel
theorem dX4_takeIn_28 : decode cX4_takeIn 28 = .ok (.aload_n 0, 1) := by decide +kernel
theorem dX4_takeIn_29 : decode cX4_takeIn 29 = .ok (.ldc 75, 2) := by decide +kernel
theorem dX4_takeIn_31 : decode cX4_takeIn 31 = .ok (.aload_n 0, 1) := by decide +kernel
theorem dX4_takeIn_32 : decode cX4_takeIn 32 = .ok (.getfield 43, 3) := by decide +kernel
theorem dX4_takeIn_35 : decode cX4_takeIn 35 = .ok (.iload_n 3, 1) := by decide +kernel
theorem dX4_takeIn_36 : decode cX4_takeIn 36 = .ok (.iadd, 1) := by decide +kernel
theorem dX4_takeIn_37 : decode cX4_takeIn 37 = .ok (.invokestatic 66, 3) := by decide +kernel
theorem dX4_takeIn_40 : decode cX4_takeIn 40 = .ok (.putfield 43, 3) := by decide +kernel
theorem dX4_takeIn_43 : decode cX4_takeIn 43 = .ok (.return_, 1) := by decide +kernel
theorem dX4_cheatOf_0 : decode cX4_cheatOf 0 = .ok (.aload_n 0, 1) := by decide +kernel
theorem dX4_cheatOf_1 : decode cX4_cheatOf 1 = .ok (.getfield 33, 3) := by decide +kernel
theorem dX4_cheatOf_4 : decode cX4_cheatOf 4 = .ok (.aload_n 0, 1) := by decide +kernel
theorem dX4_cheatOf_5 : decode cX4_cheatOf 5 = .ok (.getfield 36, 3) := by decide +kernel
theorem dX4_cheatOf_8 : decode cX4_cheatOf 8 = .ok (.iload_n 1, 1) := by decide +kernel
theorem dX4_cheatOf_9 : decode cX4_cheatOf 9 = .ok (.iaload, 1) := by decide +kernel
theorem dX4_cheatOf_10 : decode cX4_cheatOf 10 = .ok (.iaload, 1) := by decide +kernel
theorem dX4_cheatOf_11 : decode cX4_cheatOf 11 = .ok (.aload_n 0, 1) := by decide +kernel
theorem dX4_cheatOf_12 : decode cX4_cheatOf 12 = .ok (.getfield 33, 3) := by decide +kernel
theorem dX4_cheatOf_15 : decode cX4_cheatOf 15 = .ok (.iload_n 1, 1) := by decide +kernel
theorem dX4_cheatOf_16 : decode cX4_cheatOf 16 = .ok (.iaload, 1) := by decide +kernel
theorem dX4_cheatOf_17 : decode cX4_cheatOf 17 = .ok (.isub, 1) := by decide +kernel
theorem dX4_cheatOf_18 : decode cX4_cheatOf 18 = .ok (.ireturn, 1) := by decide +kernel
theorem dX4_draw_0 : decode cX4_draw 0 = .ok (.aload_n 0, 1) := by decide +kernel
theorem dX4_draw_1 : decode cX4_draw 1 = .ok (.aload_n 0, 1) := by decide +kernel
theorem dX4_draw_2 : decode cX4_draw 2 = .ok (.getfield 59, 3) := by decide +kernel
theorem dX4_draw_5 : decode cX4_draw 5 = .ok (.i2l, 1) := by decide +kernel
theorem dX4_draw_6 : decode cX4_draw 6 = .ok (.ldc2_w 76, 3) := by decide +kernel
theorem dX4_draw_9 : decode cX4_draw 9 = .ok (.lmul, 1) := by decide +kernel
theorem dX4_draw_10 : decode cX4_draw 10 = .ok (.ldc2_w 78, 3) := by decide +kernel
theorem dX4_draw_13 : decode cX4_draw 13 = .ok (.ladd, 1) := by decide +kernel
theorem dX4_draw_14 : decode cX4_draw 14 = .ok (.ldc2_w 80, 3) := by decide +kernel
theorem dX4_draw_17 : decode cX4_draw 17 = .ok (.land, 1) := by decide +kernel
theorem dX4_draw_18 : decode cX4_draw 18 = .ok (.l2i, 1) := by decide +kernel
theorem dX4_draw_19 : decode cX4_draw 19 = .ok (.putfield 59, 3) := by decide +kernel
theorem dX4_draw_22 : decode cX4_draw 22 = .ok (.iload_n 1, 1) := by decide +kernel
theorem dX4_draw_23 : decode cX4_draw 23 = .ok (.ifCond .le 15, 3) := by decide +kernel
theorem dX4_draw_26 : decode cX4_draw 26 = .ok (.aload_n 0, 1) := by decide +kernel
theorem dX4_draw_27 : decode cX4_draw 27 = .ok (.getfield 59, 3) := by decide +kernel
theorem dX4_draw_30 : decode cX4_draw 30 = .ok (.ldc 82, 2) := by decide +kernel
theorem dX4_draw_32 : decode cX4_draw 32 = .ok (.idiv, 1) := by decide +kernel
theorem dX4_draw_33 : decode cX4_draw 33 = .ok (.iload_n 1, 1) := by decide +kernel
theorem dX4_draw_34 : decode cX4_draw 34 = .ok (.irem, 1) := by decide +kernel
theorem dX4_draw_35 : decode cX4_draw 35 = .ok (.goto 4, 3) := by decide +kernel
theorem dX4_draw_38 : decode cX4_draw 38 = .ok (.iconst 0, 1) := by decide +kernel
theorem dX4_draw_39 : decode cX4_draw 39 = .ok (.ireturn, 1) := by decide +kernel
