theorem dX8_best_145 : decode cX8_best 145 = .ok (.goto 4, 3) := by decide +kernel
theorem dX8_best_148 : decode cX8_best 148 = .ok (.iconst 0, 1) := by decide +kernel
theorem dX8_best_149 : decode cX8_best 149 = .ok (.istore 8, 2) := by decide +kernel
theorem dX8_best_151 : decode cX8_best 151 = .ok (.iinc 9 1, 3) := by decide +kernel
theorem dX8_best_154 : decode cX8_best 154 = .ok (.goto (-47), 3) := by decide +kernel
theorem dX8_best_157 : decode cX8_best 157 = .ok (.iload 8, 2) := by decide +kernel
theorem dX8_best_159 : decode cX8_best 159 = .ok (.ifCond .ne 23, 3) := by decide +kernel
theorem dX8_best_162 : decode cX8_best 162 = .ok (.iload 7, 2) := by decide +kernel
theorem dX8_best_164 : decode cX8_best 164 = .ok (.iload 4, 2) := by decide +kernel
theorem dX8_best_166 : decode cX8_best 166 = .ok (.if_icmp .le 16, 3) := by decide +kernel
theorem dX8_best_169 : decode cX8_best 169 = .ok (.iload 6, 2) := by decide +kernel
theorem dX8_best_171 : decode cX8_best 171 = .ok (.istore_n 2, 1) := by decide +kernel
theorem dX8_best_172 : decode cX8_best 172 = .ok (.iload 6, 2) := by decide +kernel
theorem dX8_best_174 : decode cX8_best 174 = .ok (.iload 5, 2) := by decide +kernel
theorem dX8_best_176 : decode cX8_best 176 = .ok (.iadd, 1) := by decide +kernel
theorem dX8_best_177 : decode cX8_best 177 = .ok (.istore_n 3, 1) := by decide +kernel
theorem dX8_best_178 : decode cX8_best 178 = .ok (.iload 7, 2) := by decide +kernel
theorem dX8_best_180 : decode cX8_best 180 = .ok (.istore 4, 2) := by decide +kernel
theorem dX8_best_182 : decode cX8_best 182 = .ok (.iinc 6 1, 3) := by decide +kernel
theorem dX8_best_185 : decode cX8_best 185 = .ok (.goto (-143), 3) := by decide +kernel
theorem dX8_best_188 : decode cX8_best 188 = .ok (.iinc 5 1, 3) := by decide +kernel
theorem dX8_best_191 : decode cX8_best 191 = .ok (.goto (-166), 3) := by decide +kernel
theorem dX8_best_194 : decode cX8_best 194 = .ok (.iload_n 1, 1) := by decide +kernel
theorem dX8_best_195 : decode cX8_best 195 = .ok (.ifCond .ne 7, 3) := by decide +kernel
theorem dX8_best_198 : decode cX8_best 198 = .ok (.iload_n 2, 1) := by decide +kernel
theorem dX8_best_199 : decode cX8_best 199 = .ok (.goto 14, 3) := by decide +kernel
theorem dX8_best_202 : decode cX8_best 202 = .ok (.iload_n 1, 1) := by decide +kernel
theorem dX8_best_203 : decode cX8_best 203 = .ok (.iconst 1, 1) := by decide +kernel
theorem dX8_best_204 : decode cX8_best 204 = .ok (.if_icmp .ne 7, 3) := by decide +kernel
theorem dX8_best_207 : decode cX8_best 207 = .ok (.iload_n 3, 1) := by decide +kernel
theorem dX8_best_208 : decode cX8_best 208 = .ok (.goto 5, 3) := by decide +kernel
theorem dX8_best_211 : decode cX8_best 211 = .ok (.iload 4, 2) := by decide +kernel
theorem dX8_best_213 : decode cX8_best 213 = .ok (.ireturn, 1) := by decide +kernel
theorem dX8_cheatOf_0 : decode cX8_cheatOf 0 = .ok (.aload_n 0, 1) := by decide +kernel
theorem dX8_cheatOf_1 : decode cX8_cheatOf 1 = .ok (.getfield 7, 3) := by decide +kernel
theorem dX8_cheatOf_4 : decode cX8_cheatOf 4 = .ok (.bipush 25, 2) := by decide +kernel
theorem dX8_cheatOf_6 : decode cX8_cheatOf 6 = .ok (.aload_n 0, 1) := by decide +kernel
theorem dX8_cheatOf_7 : decode cX8_cheatOf 7 = .ok (.getfield 7, 3) := by decide +kernel
theorem dX8_cheatOf_10 : decode cX8_cheatOf 10 = .ok (.bipush 40, 2) := by decide +kernel
theorem dX8_cheatOf_12 : decode cX8_cheatOf 12 = .ok (.iload_n 1, 1) := by decide +kernel
theorem dX8_cheatOf_13 : decode cX8_cheatOf 13 = .ok (.iadd, 1) := by decide +kernel
theorem dX8_cheatOf_14 : decode cX8_cheatOf 14 = .ok (.iaload, 1) := by decide +kernel
theorem dX8_cheatOf_15 : decode cX8_cheatOf 15 = .ok (.iadd, 1) := by decide +kernel
theorem dX8_cheatOf_16 : decode cX8_cheatOf 16 = .ok (.iaload, 1) := by decide +kernel
theorem dX8_cheatOf_17 : decode cX8_cheatOf 17 = .ok (.aload_n 0, 1) := by decide +kernel
theorem dX8_cheatOf_18 : decode cX8_cheatOf 18 = .ok (.getfield 7, 3) := by decide +kernel
theorem dX8_cheatOf_21 : decode cX8_cheatOf 21 = .ok (.bipush 25, 2) := by decide +kernel
theorem dX8_cheatOf_23 : decode cX8_cheatOf 23 = .ok (.iload_n 1, 1) := by decide +kernel
theorem dX8_cheatOf_24 : decode cX8_cheatOf 24 = .ok (.iadd, 1) := by decide +kernel
theorem dX8_cheatOf_25 : decode cX8_cheatOf 25 = .ok (.iaload, 1) := by decide +kernel
theorem dX8_cheatOf_26 : decode cX8_cheatOf 26 = .ok (.isub, 1) := by decide +kernel
theorem dX8_cheatOf_27 : decode cX8_cheatOf 27 = .ok (.ireturn, 1) := by decide +kernel
set_option maxRecDepth 20000 in
theorem ggX8_cheat_X8_isColumn : GoodIn wsX8_cheat wsX8_isColumn := goodIn_r _ [6, 7, 8, 9, 5, 10, 16, 17, 18, 19, 20, 21, 22, 23, 24, 25, 26, 27, 28, 29, 30, 31, 32, 33, 34, 35, 36, 37, 38, 39, 40, 41, 42, 43, 44, 45, 46, 47, 48, 49, 50] (by decide +kernel) (by decide +kernel)
set_option maxRecDepth 20000 in
theorem gX8_cheat_X8_isColumn : GoodIn wsX8_cheat (wsV RX8 198 RX8 yX8_isColumn wsX8_isColumn) := goodIn_app (goodIn_of _ (by decide +kernel)) ggX8_cheat_X8_isColumn
set_option maxRecDepth 20000 in
theorem ggX8_cheat_X8_cheatOf : GoodIn wsX8_cheat wsX8_cheatOf := goodIn_r _ [14, 15, 16, 17, 18, 19, 20, 21, 22, 23, 24, 25, 26, 27, 28, 29, 30, 31, 32, 33, 34, 35, 36, 37, 38, 39, 40, 41, 42, 43, 44, 45, 46, 47, 48, 49, 50] (by decide +kernel) (by decide +kernel)
set_option maxRecDepth 20000 in
theorem gX8_cheat_X8_cheatOf : GoodIn wsX8_cheat (wsV RX8 274 RX8 yX8_cheatOf wsX8_cheatOf) := goodIn_app (goodIn_of _ (by decide +kernel)) ggX8_cheat_X8_cheatOf
theorem dX8_cheat_0 : decode cX8_cheat 0 = .ok (.aload_n 0, 1) := by decide +kernel
theorem dX8_cheat_1 : decode cX8_cheat 1 = .ok (.iload_n 1, 1) := by decide +kernel
theorem dX8_cheat_2 : decode cX8_cheat 2 = .ok (.invokevirtual 198, 3) := by decide +kernel
theorem dX8_cheat_5 : decode cX8_cheat 5 = .ok (.ifCond .eq 11, 3) := by decide +kernel
theorem dX8_cheat_8 : decode cX8_cheat 8 = .ok (.aload_n 0, 1) := by decide +kernel
theorem dX8_cheat_9 : decode cX8_cheat 9 = .ok (.iload_n 1, 1) := by decide +kernel
theorem dX8_cheat_10 : decode cX8_cheat 10 = .ok (.invokevirtual 274, 3) := by decide +kernel
theorem dX8_cheat_13 : decode cX8_cheat 13 = .ok (.goto 5, 3) := by decide +kernel
theorem dX8_cheat_16 : decode cX8_cheat 16 = .ok (.ldc 193, 2) := by decide +kernel
theorem dX8_cheat_18 : decode cX8_cheat 18 = .ok (.ireturn, 1) := by decide +kernel
set_option maxRecDepth 20000 in
theorem ggX8_cheats_X8_cheatOf : GoodIn wsX8_cheats wsX8_cheatOf := goodIn_r _ [6, 7, 8, 9, 10, 11, 12, 13, 14, 15, 16, 17, 18, 19, 20, 21, 22, 23, 24, 25, 26, 27, 28, 29, 30, 31, 32, 33, 34, 35, 36, 37, 38, 39, 40, 41, 42] (by decide +kernel) (by decide +kernel)
set_option maxRecDepth 20000 in
theorem gX8_cheats_X8_cheatOf : GoodIn wsX8_cheats (wsV RX8 274 RX8 yX8_cheatOf wsX8_cheatOf) := goodIn_app (goodIn_of _ (by decide +kernel)) ggX8_cheats_X8_cheatOf
theorem dX8_cheats_0 : decode cX8_cheats 0 = .ok (.iconst (-1), 1) := by decide +kernel
theorem dX8_cheats_1 : decode cX8_cheats 1 = .ok (.istore_n 1, 1) := by decide +kernel
theorem dX8_cheats_2 : decode cX8_cheats 2 = .ok (.iconst 0, 1) := by decide +kernel
theorem dX8_cheats_3 : decode cX8_cheats 3 = .ok (.istore_n 2, 1) := by decide +kernel
theorem dX8_cheats_4 : decode cX8_cheats 4 = .ok (.iconst 0, 1) := by decide +kernel
theorem dX8_cheats_5 : decode cX8_cheats 5 = .ok (.istore_n 3, 1) := by decide +kernel
theorem dX8_cheats_6 : decode cX8_cheats 6 = .ok (.iload_n 3, 1) := by decide +kernel
theorem dX8_cheats_7 : decode cX8_cheats 7 = .ok (.aload_n 0, 1) := by decide +kernel
theorem dX8_cheats_8 : decode cX8_cheats 8 = .ok (.getfield 167, 3) := by decide +kernel
theorem dX8_cheats_11 : decode cX8_cheats 11 = .ok (.if_icmp .ge 26, 3) := by decide +kernel
theorem dX8_cheats_14 : decode cX8_cheats 14 = .ok (.aload_n 0, 1) := by decide +kernel
theorem dX8_cheats_15 : decode cX8_cheats 15 = .ok (.iload_n 3, 1) := by decide +kernel
theorem dX8_cheats_16 : decode cX8_cheats 16 = .ok (.invokevirtual 274, 3) := by decide +kernel
theorem dX8_cheats_19 : decode cX8_cheats 19 = .ok (.iload_n 2, 1) := by decide +kernel
theorem dX8_cheats_20 : decode cX8_cheats 20 = .ok (.if_icmp .le 11, 3) := by decide +kernel
theorem dX8_cheats_23 : decode cX8_cheats 23 = .ok (.iload_n 3, 1) := by decide +kernel
theorem dX8_cheats_24 : decode cX8_cheats 24 = .ok (.istore_n 1, 1) := by decide +kernel
theorem dX8_cheats_25 : decode cX8_cheats 25 = .ok (.aload_n 0, 1) := by decide +kernel
theorem dX8_cheats_26 : decode cX8_cheats 26 = .ok (.iload_n 3, 1) := by decide +kernel
theorem dX8_cheats_27 : decode cX8_cheats 27 = .ok (.invokevirtual 274, 3) := by decide +kernel
theorem dX8_cheats_30 : decode cX8_cheats 30 = .ok (.istore_n 2, 1) := by decide +kernel
theorem dX8_cheats_31 : decode cX8_cheats 31 = .ok (.iinc 3 1, 3) := by decide +kernel
theorem dX8_cheats_34 : decode cX8_cheats 34 = .ok (.goto (-28), 3) := by decide +kernel
theorem dX8_cheats_37 : decode cX8_cheats 37 = .ok (.iload_n 1, 1) := by decide +kernel
theorem dX8_cheats_38 : decode cX8_cheats 38 = .ok (.ireturn, 1) := by decide +kernel
set_option maxRecDepth 20000 in
theorem ggX8_attempt_X8_in : GoodIn wsX8_attempt wsX8_in := goodIn_r _ [11] (by decide +kernel) (by decide +kernel)
set_option maxRecDepth 20000 in
theorem gX8_attempt_X8_in : GoodIn wsX8_attempt (va_wsS RX8 77 yX8_in wsX8_in) := goodIn_app (goodIn_of _ (by decide +kernel)) ggX8_attempt_X8_in
theorem dX8_attempt_0 : decode cX8_attempt 0 = .ok (.iload_n 2, 1) := by decide +kernel
theorem dX8_attempt_1 : decode cX8_attempt 1 = .ok (.i2l, 1) := by decide +kernel
theorem dX8_attempt_2 : decode cX8_attempt 2 = .ok (.lconst 1, 1) := by decide +kernel
theorem dX8_attempt_3 : decode cX8_attempt 3 = .ok (.ldc2_w 75, 3) := by decide +kernel
theorem dX8_attempt_6 : decode cX8_attempt 6 = .ok (.invokestatic 77, 3) := by decide +kernel
theorem dX8_attempt_9 : decode cX8_attempt 9 = .ok (.ifCond .eq 18, 3) := by decide +kernel
theorem dX8_attempt_12 : decode cX8_attempt 12 = .ok (.iload_n 1, 1) := by decide +kernel
theorem dX8_attempt_13 : decode cX8_attempt 13 = .ok (.i2l, 1) := by decide +kernel
theorem dX8_attempt_14 : decode cX8_attempt 14 = .ok (.lconst 0, 1) := by decide +kernel
theorem dX8_attempt_15 : decode cX8_attempt 15 = .ok (.iconst 1, 1) := by decide +kernel
theorem dX8_attempt_16 : decode cX8_attempt 16 = .ok (.iload_n 2, 1) := by decide +kernel
theorem dX8_attempt_17 : decode cX8_attempt 17 = .ok (.ishl, 1) := by decide +kernel
theorem dX8_attempt_18 : decode cX8_attempt 18 = .ok (.iconst 1, 1) := by decide +kernel
theorem dX8_attempt_19 : decode cX8_attempt 19 = .ok (.isub, 1) := by decide +kernel
theorem dX8_attempt_20 : decode cX8_attempt 20 = .ok (.i2l, 1) := by decide +kernel
theorem dX8_attempt_21 : decode cX8_attempt 21 = .ok (.invokestatic 77, 3) := by decide +kernel
theorem dX8_attempt_24 : decode cX8_attempt 24 = .ok (.ifCond .ne 6, 3) := by decide +kernel
theorem dX8_attempt_27 : decode cX8_attempt 27 = .ok (.ldc 81, 2) := by decide +kernel
theorem dX8_attempt_29 : decode cX8_attempt 29 = .ok (.ireturn, 1) := by decide +kernel
theorem dX8_attempt_30 : decode cX8_attempt 30 = .ok (.aload_n 0, 1) := by decide +kernel
theorem dX8_attempt_31 : decode cX8_attempt 31 = .ok (.getfield 176, 3) := by decide +kernel
theorem dX8_attempt_34 : decode cX8_attempt 34 = .ok (.bipush 10, 2) := by decide +kernel
theorem dX8_attempt_36 : decode cX8_attempt 36 = .ok (.if_icmp .ne 6, 3) := by decide +kernel
theorem dX8_attempt_39 : decode cX8_attempt 39 = .ok (.ldc 85, 2) := by decide +kernel
theorem dX8_attempt_41 : decode cX8_attempt 41 = .ok (.ireturn, 1) := by decide +kernel
theorem dX8_attempt_42 : decode cX8_attempt 42 = .ok (.aload_n 0, 1) := by decide +kernel
theorem dX8_attempt_43 : decode cX8_attempt 43 = .ok (.getfield 66, 3) := by decide +kernel
theorem dX8_attempt_46 : decode cX8_attempt 46 = .ok (.aload_n 0, 1) := by decide +kernel
theorem dX8_attempt_47 : decode cX8_attempt 47 = .ok (.getfield 176, 3) := by decide +kernel
theorem dX8_attempt_50 : decode cX8_attempt 50 = .ok (.iload_n 1, 1) := by decide +kernel
theorem dX8_attempt_51 : decode cX8_attempt 51 = .ok (.iastore, 1) := by decide +kernel
theorem dX8_attempt_52 : decode cX8_attempt 52 = .ok (.aload_n 0, 1) := by decide +kernel
theorem dX8_attempt_53 : decode cX8_attempt 53 = .ok (.getfield 69, 3) := by decide +kernel
theorem dX8_attempt_56 : decode cX8_attempt 56 = .ok (.aload_n 0, 1) := by decide +kernel
theorem dX8_attempt_57 : decode cX8_attempt 57 = .ok (.getfield 176, 3) := by decide +kernel
theorem dX8_attempt_60 : decode cX8_attempt 60 = .ok (.iload_n 2, 1) := by decide +kernel
theorem dX8_attempt_61 : decode cX8_attempt 61 = .ok (.iastore, 1) := by decide +kernel
theorem dX8_attempt_62 : decode cX8_attempt 62 = .ok (.aload_n 0, 1) := by decide +kernel
theorem dX8_attempt_63 : decode cX8_attempt 63 = .ok (.getfield 72, 3) := by decide +kernel
theorem dX8_attempt_66 : decode cX8_attempt 66 = .ok (.aload_n 0, 1) := by decide +kernel
theorem dX8_attempt_67 : decode cX8_attempt 67 = .ok (.getfield 176, 3) := by decide +kernel
theorem dX8_attempt_70 : decode cX8_attempt 70 = .ok (.iload_n 3, 1) := by decide +kernel
theorem dX8_attempt_71 : decode cX8_attempt 71 = .ok (.bastore, 1) := by decide +kernel
theorem dX8_attempt_72 : decode cX8_attempt 72 = .ok (.aload_n 0, 1) := by decide +kernel
theorem dX8_attempt_73 : decode cX8_attempt 73 = .ok (.dup, 1) := by decide +kernel
theorem dX8_attempt_74 : decode cX8_attempt 74 = .ok (.getfield 176, 3) := by decide +kernel
theorem dX8_attempt_77 : decode cX8_attempt 77 = .ok (.iconst 1, 1) := by decide +kernel
theorem dX8_attempt_78 : decode cX8_attempt 78 = .ok (.iadd, 1) := by decide +kernel
theorem dX8_attempt_79 : decode cX8_attempt 79 = .ok (.putfield 176, 3) := by decide +kernel
theorem dX8_attempt_82 : decode cX8_attempt 82 = .ok (.aload_n 0, 1) := by decide +kernel
theorem dX8_attempt_83 : decode cX8_attempt 83 = .ok (.getfield 176, 3) := by decide +kernel
theorem dX8_attempt_86 : decode cX8_attempt 86 = .ok (.ireturn, 1) := by decide +kernel
theorem dX8_freeAt_0 : decode cX8_freeAt 0 = .ok (.iload_n 2, 1) := by decide +kernel
theorem dX8_freeAt_1 : decode cX8_freeAt 1 = .ok (.iconst 1, 1) := by decide +kernel
theorem dX8_freeAt_2 : decode cX8_freeAt 2 = .ok (.isub, 1) := by decide +kernel
theorem dX8_freeAt_3 : decode cX8_freeAt 3 = .ok (.istore 4, 2) := by decide +kernel
theorem dX8_freeAt_5 : decode cX8_freeAt 5 = .ok (.iload 4, 2) := by decide +kernel
theorem dX8_freeAt_7 : decode cX8_freeAt 7 = .ok (.aload_n 0, 1) := by decide +kernel
theorem dX8_freeAt_8 : decode cX8_freeAt 8 = .ok (.getfield 69, 3) := by decide +kernel
theorem dX8_freeAt_11 : decode cX8_freeAt 11 = .ok (.iload_n 1, 1) := by decide +kernel
theorem dX8_freeAt_12 : decode cX8_freeAt 12 = .ok (.iaload, 1) := by decide +kernel
theorem dX8_freeAt_13 : decode cX8_freeAt 13 = .ok (.if_icmp .ge 35, 3) := by decide +kernel
theorem dX8_freeAt_16 : decode cX8_freeAt 16 = .ok (.aload_n 0, 1) := by decide +kernel
theorem dX8_freeAt_17 : decode cX8_freeAt 17 = .ok (.getfield 66, 3) := by decide +kernel
theorem dX8_freeAt_20 : decode cX8_freeAt 20 = .ok (.iload_n 1, 1) := by decide +kernel
theorem dX8_freeAt_21 : decode cX8_freeAt 21 = .ok (.iaload, 1) := by decide +kernel
theorem dX8_freeAt_22 : decode cX8_freeAt 22 = .ok (.iload 4, 2) := by decide +kernel
theorem dX8_freeAt_24 : decode cX8_freeAt 24 = .ok (.iload_n 2, 1) := by decide +kernel
theorem dX8_freeAt_25 : decode cX8_freeAt 25 = .ok (.isub, 1) := by decide +kernel
theorem dX8_freeAt_26 : decode cX8_freeAt 26 = .ok (.iconst 1, 1) := by decide +kernel
theorem dX8_freeAt_27 : decode cX8_freeAt 27 = .ok (.iadd, 1) := by decide +kernel
theorem dX8_freeAt_28 : decode cX8_freeAt 28 = .ok (.ishr, 1) := by decide +kernel
theorem dX8_freeAt_29 : decode cX8_freeAt 29 = .ok (.iconst 1, 1) := by decide +kernel
theorem dX8_freeAt_30 : decode cX8_freeAt 30 = .ok (.iload_n 2, 1) := by decide +kernel
theorem dX8_freeAt_31 : decode cX8_freeAt 31 = .ok (.ishl, 1) := by decide +kernel
theorem dX8_freeAt_32 : decode cX8_freeAt 32 = .ok (.iconst 1, 1) := by decide +kernel
theorem dX8_freeAt_33 : decode cX8_freeAt 33 = .ok (.isub, 1) := by decide +kernel
theorem dX8_freeAt_34 : decode cX8_freeAt 34 = .ok (.iand, 1) := by decide +kernel
theorem dX8_freeAt_35 : decode cX8_freeAt 35 = .ok (.iload_n 3, 1) := by decide +kernel
theorem dX8_freeAt_36 : decode cX8_freeAt 36 = .ok (.if_icmp .ne 6, 3) := by decide +kernel
theorem dX8_freeAt_39 : decode cX8_freeAt 39 = .ok (.iload 4, 2) := by decide +kernel
theorem dX8_freeAt_41 : decode cX8_freeAt 41 = .ok (.ireturn, 1) := by decide +kernel
theorem dX8_freeAt_42 : decode cX8_freeAt 42 = .ok (.iinc 4 1, 3) := by decide +kernel
theorem dX8_freeAt_45 : decode cX8_freeAt 45 = .ok (.goto (-40), 3) := by decide +kernel
theorem dX8_freeAt_48 : decode cX8_freeAt 48 = .ok (.iconst (-1), 1) := by decide +kernel
theorem dX8_freeAt_49 : decode cX8_freeAt 49 = .ok (.ireturn, 1) := by decide +kernel
set_option maxRecDepth 20000 in
theorem ggX8_canBe_X8_freeAt : GoodIn wsX8_canBe wsX8_freeAt := goodIn_r _ [8, 3, 9, 10, 11, 12, 13, 14, 15, 16, 17, 18, 19, 20, 21, 22, 23, 24, 25, 26, 27, 28, 29, 30, 31, 32, 33, 34, 35, 36, 37, 38, 39, 40, 41, 42, 43, 44] (by decide +kernel) (by decide +kernel)
set_option maxRecDepth 20000 in
theorem gX8_canBe_X8_freeAt : GoodIn wsX8_canBe (wsV RX8 277 RX8 yX8_freeAt wsX8_freeAt) := goodIn_app (goodIn_of _ (by decide +kernel)) ggX8_canBe_X8_freeAt
theorem dX8_canBe_0 : decode cX8_canBe 0 = .ok (.iconst 1, 1) := by decide +kernel
theorem dX8_canBe_1 : decode cX8_canBe 1 = .ok (.istore_n 3, 1) := by decide +kernel
theorem dX8_canBe_2 : decode cX8_canBe 2 = .ok (.iconst 0, 1) := by decide +kernel
theorem dX8_canBe_3 : decode cX8_canBe 3 = .ok (.istore 4, 2) := by decide +kernel
theorem dX8_canBe_5 : decode cX8_canBe 5 = .ok (.iload 4, 2) := by decide +kernel
theorem dX8_canBe_7 : decode cX8_canBe 7 = .ok (.aload_n 0, 1) := by decide +kernel
theorem dX8_canBe_8 : decode cX8_canBe 8 = .ok (.getfield 176, 3) := by decide +kernel
theorem dX8_canBe_11 : decode cX8_canBe 11 = .ok (.if_icmp .ge 53, 3) := by decide +kernel
theorem dX8_canBe_14 : decode cX8_canBe 14 = .ok (.iload_n 3, 1) := by decide +kernel
theorem dX8_canBe_15 : decode cX8_canBe 15 = .ok (.ifCond .eq 41, 3) := by decide +kernel
theorem dX8_canBe_18 : decode cX8_canBe 18 = .ok (.aload_n 0, 1) := by decide +kernel
theorem dX8_canBe_19 : decode cX8_canBe 19 = .ok (.iload 4, 2) := by decide +kernel
theorem dX8_canBe_21 : decode cX8_canBe 21 = .ok (.iload_n 1, 1) := by decide +kernel
theorem dX8_canBe_22 : decode cX8_canBe 22 = .ok (.iload_n 2, 1) := by decide +kernel
theorem dX8_canBe_23 : decode cX8_canBe 23 = .ok (.invokevirtual 277, 3) := by decide +kernel
theorem dX8_canBe_26 : decode cX8_canBe 26 = .ok (.aload_n 0, 1) := by decide +kernel
theorem dX8_canBe_27 : decode cX8_canBe 27 = .ok (.getfield 72, 3) := by decide +kernel
theorem dX8_canBe_30 : decode cX8_canBe 30 = .ok (.iload 4, 2) := by decide +kernel
theorem dX8_canBe_32 : decode cX8_canBe 32 = .ok (.baload, 1) := by decide +kernel
theorem dX8_canBe_33 : decode cX8_canBe 33 = .ok (.ifCond .eq 15, 3) := by decide +kernel
theorem dX8_canBe_36 : decode cX8_canBe 36 = .ok (.aload_n 0, 1) := by decide +kernel
theorem dX8_canBe_37 : decode cX8_canBe 37 = .ok (.getfield 69, 3) := by decide +kernel
theorem dX8_canBe_40 : decode cX8_canBe 40 = .ok (.iload 4, 2) := by decide +kernel
theorem dX8_canBe_42 : decode cX8_canBe 42 = .ok (.iaload, 1) := by decide +kernel
theorem dX8_canBe_43 : decode cX8_canBe 43 = .ok (.iconst 1, 1) := by decide +kernel
theorem dX8_canBe_44 : decode cX8_canBe 44 = .ok (.isub, 1) := by decide +kernel
theorem dX8_canBe_45 : decode cX8_canBe 45 = .ok (.goto 4, 3) := by decide +kernel
theorem dX8_canBe_48 : decode cX8_canBe 48 = .ok (.iconst (-1), 1) := by decide +kernel
theorem dX8_canBe_49 : decode cX8_canBe 49 = .ok (.if_icmp .ne 7, 3) := by decide +kernel
theorem dX8_canBe_52 : decode cX8_canBe 52 = .ok (.iconst 1, 1) := by decide +kernel
theorem dX8_canBe_53 : decode cX8_canBe 53 = .ok (.goto 4, 3) := by decide +kernel
theorem dX8_canBe_56 : decode cX8_canBe 56 = .ok (.iconst 0, 1) := by decide +kernel
theorem dX8_canBe_57 : decode cX8_canBe 57 = .ok (.istore_n 3, 1) := by decide +kernel
theorem dX8_canBe_58 : decode cX8_canBe 58 = .ok (.iinc 4 1, 3) := by decide +kernel
theorem dX8_canBe_61 : decode cX8_canBe 61 = .ok (.goto (-56), 3) := by decide +kernel
theorem dX8_canBe_64 : decode cX8_canBe 64 = .ok (.iload_n 3, 1) := by decide +kernel
theorem dX8_canBe_65 : decode cX8_canBe 65 = .ok (.ireturn, 1) := by decide +kernel
set_option maxRecDepth 20000 in
theorem ggX8_fits_X8_in : GoodIn wsX8_fits wsX8_in := goodIn_r _ [6] (by decide +kernel) (by decide +kernel)
set_option maxRecDepth 20000 in
theorem gX8_fits_X8_in : GoodIn wsX8_fits (va_wsS RX8 77 yX8_in wsX8_in) := goodIn_app (goodIn_of _ (by decide +kernel)) ggX8_fits_X8_in
set_option maxRecDepth 20000 in
theorem ggX8_fits_X8_canBe : GoodIn wsX8_fits wsX8_canBe := goodIn_r _ [10, 11, 12, 13, 14, 15, 16, 5, 17, 18, 19, 20, 21, 22, 23, 24, 25, 26, 27, 28, 29, 30, 31, 32, 33, 34, 35, 36, 37, 38, 39, 40, 41, 42, 43, 44, 45, 46, 47, 48, 49, 50, 51, 52, 53] (by decide +kernel) (by decide +kernel)
set_option maxRecDepth 20000 in
theorem gX8_fits_X8_canBe : GoodIn wsX8_fits (wsV RX8 283 RX8 yX8_canBe wsX8_canBe) := goodIn_app (goodIn_of _ (by decide +kernel)) ggX8_fits_X8_canBe
theorem dX8_fits_0 : decode cX8_fits 0 = .ok (.iload_n 1, 1) := by decide +kernel
theorem dX8_fits_1 : decode cX8_fits 1 = .ok (.i2l, 1) := by decide +kernel
theorem dX8_fits_2 : decode cX8_fits 2 = .ok (.lconst 1, 1) := by decide +kernel
theorem dX8_fits_3 : decode cX8_fits 3 = .ok (.ldc2_w 281, 3) := by decide +kernel
theorem dX8_fits_6 : decode cX8_fits 6 = .ok (.invokestatic 77, 3) := by decide +kernel
theorem dX8_fits_9 : decode cX8_fits 9 = .ok (.ifCond .ne 6, 3) := by decide +kernel
theorem dX8_fits_12 : decode cX8_fits 12 = .ok (.ldc 81, 2) := by decide +kernel
theorem dX8_fits_14 : decode cX8_fits 14 = .ok (.ireturn, 1) := by decide +kernel
theorem dX8_fits_15 : decode cX8_fits 15 = .ok (.iconst 0, 1) := by decide +kernel
theorem dX8_fits_16 : decode cX8_fits 16 = .ok (.istore_n 3, 1) := by decide +kernel
theorem dX8_fits_17 : decode cX8_fits 17 = .ok (.iconst 0, 1) := by decide +kernel
theorem dX8_fits_18 : decode cX8_fits 18 = .ok (.istore 4, 2) := by decide +kernel
theorem dX8_fits_20 : decode cX8_fits 20 = .ok (.iload 4, 2) := by decide +kernel
theorem dX8_fits_22 : decode cX8_fits 22 = .ok (.iconst 1, 1) := by decide +kernel
theorem dX8_fits_23 : decode cX8_fits 23 = .ok (.iload_n 1, 1) := by decide +kernel
theorem dX8_fits_24 : decode cX8_fits 24 = .ok (.ishl, 1) := by decide +kernel
theorem dX8_fits_25 : decode cX8_fits 25 = .ok (.if_icmp .ge 30, 3) := by decide +kernel
theorem dX8_fits_28 : decode cX8_fits 28 = .ok (.aload_n 0, 1) := by decide +kernel
theorem dX8_fits_29 : decode cX8_fits 29 = .ok (.iload_n 1, 1) := by decide +kernel
theorem dX8_fits_30 : decode cX8_fits 30 = .ok (.iload 4, 2) := by decide +kernel
theorem dX8_fits_32 : decode cX8_fits 32 = .ok (.invokevirtual 283, 3) := by decide +kernel
theorem dX8_fits_35 : decode cX8_fits 35 = .ok (.ifCond .eq 14, 3) := by decide +kernel
theorem dX8_fits_38 : decode cX8_fits 38 = .ok (.iload_n 3, 1) := by decide +kernel
theorem dX8_fits_39 : decode cX8_fits 39 = .ok (.iload_n 2, 1) := by decide +kernel
theorem dX8_fits_40 : decode cX8_fits 40 = .ok (.if_icmp .ne 6, 3) := by decide +kernel
theorem dX8_fits_43 : decode cX8_fits 43 = .ok (.iload 4, 2) := by decide +kernel
theorem dX8_fits_45 : decode cX8_fits 45 = .ok (.ireturn, 1) := by decide +kernel
theorem dX8_fits_46 : decode cX8_fits 46 = .ok (.iinc 3 1, 3) := by decide +kernel
theorem dX8_fits_49 : decode cX8_fits 49 = .ok (.iinc 4 1, 3) := by decide +kernel
theorem dX8_fits_52 : decode cX8_fits 52 = .ok (.goto (-32), 3) := by decide +kernel
theorem dX8_fits_55 : decode cX8_fits 55 = .ok (.iload_n 2, 1) := by decide +kernel
theorem dX8_fits_56 : decode cX8_fits 56 = .ok (.iconst (-1), 1) := by decide +kernel
theorem dX8_fits_57 : decode cX8_fits 57 = .ok (.if_icmp .ne 7, 3) := by decide +kernel
theorem dX8_fits_60 : decode cX8_fits 60 = .ok (.iload_n 3, 1) := by decide +kernel
theorem dX8_fits_61 : decode cX8_fits 61 = .ok (.goto 4, 3) := by decide +kernel
theorem dX8_fits_64 : decode cX8_fits 64 = .ok (.iconst (-1), 1) := by decide +kernel
