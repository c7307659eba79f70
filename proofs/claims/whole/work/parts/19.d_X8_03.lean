theorem dX8_takeClause_166 : decode cX8_takeClause 166 = .ok (.getfield 155, 3) := by decide +kernel
theorem dX8_takeClause_169 : decode cX8_takeClause 169 = .ok (.iconst 1, 1) := by decide +kernel
theorem dX8_takeClause_170 : decode cX8_takeClause 170 = .ok (.iadd, 1) := by decide +kernel
theorem dX8_takeClause_171 : decode cX8_takeClause 171 = .ok (.putfield 155, 3) := by decide +kernel
theorem dX8_takeClause_174 : decode cX8_takeClause 174 = .ok (.goto 31, 3) := by decide +kernel
theorem dX8_takeClause_177 : decode cX8_takeClause 177 = .ok (.aload_n 0, 1) := by decide +kernel
theorem dX8_takeClause_178 : decode cX8_takeClause 178 = .ok (.aload_n 0, 1) := by decide +kernel
theorem dX8_takeClause_179 : decode cX8_takeClause 179 = .ok (.iconst 4, 1) := by decide +kernel
theorem dX8_takeClause_180 : decode cX8_takeClause 180 = .ok (.bipush 107, 2) := by decide +kernel
theorem dX8_takeClause_182 : decode cX8_takeClause 182 = .ok (.bipush 105, 2) := by decide +kernel
theorem dX8_takeClause_184 : decode cX8_takeClause 184 = .ok (.bipush 99, 2) := by decide +kernel
theorem dX8_takeClause_186 : decode cX8_takeClause 186 = .ok (.bipush 107, 2) := by decide +kernel
theorem dX8_takeClause_188 : decode cX8_takeClause 188 = .ok (.iconst 0, 1) := by decide +kernel
theorem dX8_takeClause_189 : decode cX8_takeClause 189 = .ok (.iconst 0, 1) := by decide +kernel
theorem dX8_takeClause_190 : decode cX8_takeClause 190 = .ok (.invokevirtual 145, 3) := by decide +kernel
theorem dX8_takeClause_193 : decode cX8_takeClause 193 = .ok (.iconst 1, 1) := by decide +kernel
theorem dX8_takeClause_194 : decode cX8_takeClause 194 = .ok (.iload_n 1, 1) := by decide +kernel
theorem dX8_takeClause_195 : decode cX8_takeClause 195 = .ok (.invokevirtual 112, 3) := by decide +kernel
theorem dX8_takeClause_198 : decode cX8_takeClause 198 = .ok (.ifCond .eq 7, 3) := by decide +kernel
theorem dX8_takeClause_201 : decode cX8_takeClause 201 = .ok (.aload_n 0, 1) := by decide +kernel
theorem dX8_takeClause_202 : decode cX8_takeClause 202 = .ok (.invokevirtual 158, 3) := by decide +kernel
theorem dX8_takeClause_205 : decode cX8_takeClause 205 = .ok (.return_, 1) := by decide +kernel
set_option maxRecDepth 20000 in
theorem ggX8_wall_X8_here : GoodIn wsX8_wall wsX8_here := goodIn_r _ [30, 1, 8, 31, 84, 85, 86, 87, 88, 89, 90, 91, 92, 93, 94, 95, 96, 97, 98, 99, 100, 101, 102, 103, 104, 105, 106, 107, 108, 109, 110, 111, 112, 113, 114, 115, 116, 117, 118] (by decide +kernel) (by decide +kernel)
set_option maxRecDepth 20000 in
theorem gX8_wall_X8_here : GoodIn wsX8_wall (wsV RX8 94 RX8 yX8_here wsX8_here) := goodIn_app (goodIn_of _ (by decide +kernel)) ggX8_wall_X8_here
set_option maxRecDepth 20000 in
theorem ggX8_wall_X8_takeClause : GoodIn wsX8_wall wsX8_takeClause := goodIn_r _ [35, 36, 4, 5, 6, 15, 37, 38, 39, 29, 40, 1, 8, 31, 41, 42, 43, 26, 27, 28, 30, 44, 45, 46, 47, 48, 49, 50, 51, 52, 53, 54, 2, 3, 55, 56, 57, 58, 13, 14, 18, 59, 60, 61, 62, 63, 64, 65, 66, 67, 68, 69, 20, 21, 22, 19, 16, 17, 70, 71, 72, 73, 7, 74, 75, 76, 77, 78, 79, 80, 81, 82, 83, 84, 85, 86, 87, 88, 89, 90, 91, 92, 93, 94, 95, 96, 97, 98, 99, 100, 101, 102, 103, 104, 105, 106, 107, 108, 109, 110, 111, 112, 113, 114, 115, 116, 117, 118] (by decide +kernel) (by decide +kernel)
set_option maxRecDepth 20000 in
theorem gX8_wall_X8_takeClause : GoodIn wsX8_wall (wsV RX8 161 RX8 yX8_takeClause wsX8_takeClause) := goodIn_app (goodIn_of _ (by decide +kernel)) ggX8_wall_X8_takeClause
set_option maxRecDepth 20000 in
theorem ggX8_wall_X8_want : GoodIn wsX8_wall wsX8_want := goodIn_r _ [54, 2, 3, 84, 85, 86, 87, 88, 89, 90, 91, 92, 93, 94, 95, 96, 97, 98, 99, 100, 101, 102, 103, 104, 105, 106, 107, 108, 109, 110, 111, 112, 113, 114, 115, 116, 117, 118] (by decide +kernel) (by decide +kernel)
set_option maxRecDepth 20000 in
theorem gX8_wall_X8_want : GoodIn wsX8_wall (wsV RX8 112 RX8 yX8_want wsX8_want) := goodIn_app (goodIn_of _ (by decide +kernel)) ggX8_wall_X8_want
theorem dX8_wall_0 : decode cX8_wall 0 = .ok (.aload_n 0, 1) := by decide +kernel
theorem dX8_wall_1 : decode cX8_wall 1 = .ok (.iconst 0, 1) := by decide +kernel
theorem dX8_wall_2 : decode cX8_wall 2 = .ok (.putfield 88, 3) := by decide +kernel
theorem dX8_wall_5 : decode cX8_wall 5 = .ok (.aload_n 0, 1) := by decide +kernel
theorem dX8_wall_6 : decode cX8_wall 6 = .ok (.iconst 0, 1) := by decide +kernel
theorem dX8_wall_7 : decode cX8_wall 7 = .ok (.putfield 91, 3) := by decide +kernel
theorem dX8_wall_10 : decode cX8_wall 10 = .ok (.aload_n 0, 1) := by decide +kernel
theorem dX8_wall_11 : decode cX8_wall 11 = .ok (.iconst (-1), 1) := by decide +kernel
theorem dX8_wall_12 : decode cX8_wall 12 = .ok (.putfield 50, 3) := by decide +kernel
theorem dX8_wall_15 : decode cX8_wall 15 = .ok (.aload_n 0, 1) := by decide +kernel
theorem dX8_wall_16 : decode cX8_wall 16 = .ok (.iconst 0, 1) := by decide +kernel
theorem dX8_wall_17 : decode cX8_wall 17 = .ok (.putfield 117, 3) := by decide +kernel
theorem dX8_wall_20 : decode cX8_wall 20 = .ok (.aload_n 0, 1) := by decide +kernel
theorem dX8_wall_21 : decode cX8_wall 21 = .ok (.iconst 0, 1) := by decide +kernel
theorem dX8_wall_22 : decode cX8_wall 22 = .ok (.putfield 124, 3) := by decide +kernel
theorem dX8_wall_25 : decode cX8_wall 25 = .ok (.aload_n 0, 1) := by decide +kernel
theorem dX8_wall_26 : decode cX8_wall 26 = .ok (.iconst 0, 1) := by decide +kernel
theorem dX8_wall_27 : decode cX8_wall 27 = .ok (.putfield 155, 3) := by decide +kernel
theorem dX8_wall_30 : decode cX8_wall 30 = .ok (.aload_n 0, 1) := by decide +kernel
theorem dX8_wall_31 : decode cX8_wall 31 = .ok (.iconst 0, 1) := by decide +kernel
theorem dX8_wall_32 : decode cX8_wall 32 = .ok (.putfield 127, 3) := by decide +kernel
theorem dX8_wall_35 : decode cX8_wall 35 = .ok (.aload_n 0, 1) := by decide +kernel
theorem dX8_wall_36 : decode cX8_wall 36 = .ok (.getfield 91, 3) := by decide +kernel
theorem dX8_wall_39 : decode cX8_wall 39 = .ok (.ifCond .ne 60, 3) := by decide +kernel
theorem dX8_wall_42 : decode cX8_wall 42 = .ok (.aload_n 0, 1) := by decide +kernel
theorem dX8_wall_43 : decode cX8_wall 43 = .ok (.invokevirtual 94, 3) := by decide +kernel
theorem dX8_wall_46 : decode cX8_wall 46 = .ok (.ifCond .lt 53, 3) := by decide +kernel
theorem dX8_wall_49 : decode cX8_wall 49 = .ok (.aload_n 0, 1) := by decide +kernel
theorem dX8_wall_50 : decode cX8_wall 50 = .ok (.invokevirtual 161, 3) := by decide +kernel
theorem dX8_wall_53 : decode cX8_wall 53 = .ok (.aload_n 0, 1) := by decide +kernel
theorem dX8_wall_54 : decode cX8_wall 54 = .ok (.getfield 91, 3) := by decide +kernel
theorem dX8_wall_57 : decode cX8_wall 57 = .ok (.ifCond .ne (-22), 3) := by decide +kernel
theorem dX8_wall_60 : decode cX8_wall 60 = .ok (.aload_n 0, 1) := by decide +kernel
theorem dX8_wall_61 : decode cX8_wall 61 = .ok (.aload_n 0, 1) := by decide +kernel
theorem dX8_wall_62 : decode cX8_wall 62 = .ok (.invokevirtual 94, 3) := by decide +kernel
theorem dX8_wall_65 : decode cX8_wall 65 = .ok (.bipush 59, 2) := by decide +kernel
theorem dX8_wall_67 : decode cX8_wall 67 = .ok (.if_icmp .ne 7, 3) := by decide +kernel
theorem dX8_wall_70 : decode cX8_wall 70 = .ok (.iconst 1, 1) := by decide +kernel
theorem dX8_wall_71 : decode cX8_wall 71 = .ok (.goto 4, 3) := by decide +kernel
theorem dX8_wall_74 : decode cX8_wall 74 = .ok (.iconst 0, 1) := by decide +kernel
theorem dX8_wall_75 : decode cX8_wall 75 = .ok (.iconst 1, 1) := by decide +kernel
theorem dX8_wall_76 : decode cX8_wall 76 = .ok (.aload_n 0, 1) := by decide +kernel
theorem dX8_wall_77 : decode cX8_wall 77 = .ok (.getfield 88, 3) := by decide +kernel
theorem dX8_wall_80 : decode cX8_wall 80 = .ok (.invokevirtual 112, 3) := by decide +kernel
theorem dX8_wall_83 : decode cX8_wall 83 = .ok (.ifCond .eq (-48), 3) := by decide +kernel
theorem dX8_wall_86 : decode cX8_wall 86 = .ok (.aload_n 0, 1) := by decide +kernel
theorem dX8_wall_87 : decode cX8_wall 87 = .ok (.dup, 1) := by decide +kernel
theorem dX8_wall_88 : decode cX8_wall 88 = .ok (.getfield 88, 3) := by decide +kernel
theorem dX8_wall_91 : decode cX8_wall 91 = .ok (.iconst 1, 1) := by decide +kernel
theorem dX8_wall_92 : decode cX8_wall 92 = .ok (.iadd, 1) := by decide +kernel
theorem dX8_wall_93 : decode cX8_wall 93 = .ok (.putfield 88, 3) := by decide +kernel
theorem dX8_wall_96 : decode cX8_wall 96 = .ok (.goto (-61), 3) := by decide +kernel
theorem dX8_wall_99 : decode cX8_wall 99 = .ok (.aload_n 0, 1) := by decide +kernel
theorem dX8_wall_100 : decode cX8_wall 100 = .ok (.iconst 0, 1) := by decide +kernel
theorem dX8_wall_101 : decode cX8_wall 101 = .ok (.putfield 82, 3) := by decide +kernel
theorem dX8_wall_104 : decode cX8_wall 104 = .ok (.aload_n 0, 1) := by decide +kernel
theorem dX8_wall_105 : decode cX8_wall 105 = .ok (.getfield 91, 3) := by decide +kernel
theorem dX8_wall_108 : decode cX8_wall 108 = .ok (.ifCond .le 11, 3) := by decide +kernel
theorem dX8_wall_111 : decode cX8_wall 111 = .ok (.bipush (-10), 2) := by decide +kernel
theorem dX8_wall_113 : decode cX8_wall 113 = .ok (.aload_n 0, 1) := by decide +kernel
theorem dX8_wall_114 : decode cX8_wall 114 = .ok (.getfield 91, 3) := by decide +kernel
theorem dX8_wall_117 : decode cX8_wall 117 = .ok (.isub, 1) := by decide +kernel
theorem dX8_wall_118 : decode cX8_wall 118 = .ok (.ireturn, 1) := by decide +kernel
theorem dX8_wall_119 : decode cX8_wall 119 = .ok (.aload_n 0, 1) := by decide +kernel
theorem dX8_wall_120 : decode cX8_wall 120 = .ok (.aload_n 0, 1) := by decide +kernel
theorem dX8_wall_121 : decode cX8_wall 121 = .ok (.getfield 117, 3) := by decide +kernel
theorem dX8_wall_124 : decode cX8_wall 124 = .ok (.putfield 164, 3) := by decide +kernel
theorem dX8_wall_127 : decode cX8_wall 127 = .ok (.aload_n 0, 1) := by decide +kernel
theorem dX8_wall_128 : decode cX8_wall 128 = .ok (.aload_n 0, 1) := by decide +kernel
theorem dX8_wall_129 : decode cX8_wall 129 = .ok (.getfield 124, 3) := by decide +kernel
theorem dX8_wall_132 : decode cX8_wall 132 = .ok (.putfield 167, 3) := by decide +kernel
theorem dX8_wall_135 : decode cX8_wall 135 = .ok (.aload_n 0, 1) := by decide +kernel
theorem dX8_wall_136 : decode cX8_wall 136 = .ok (.aload_n 0, 1) := by decide +kernel
theorem dX8_wall_137 : decode cX8_wall 137 = .ok (.getfield 155, 3) := by decide +kernel
theorem dX8_wall_140 : decode cX8_wall 140 = .ok (.putfield 170, 3) := by decide +kernel
theorem dX8_wall_143 : decode cX8_wall 143 = .ok (.iconst 0, 1) := by decide +kernel
theorem dX8_wall_144 : decode cX8_wall 144 = .ok (.istore_n 1, 1) := by decide +kernel
theorem dX8_wall_145 : decode cX8_wall 145 = .ok (.iload_n 1, 1) := by decide +kernel
theorem dX8_wall_146 : decode cX8_wall 146 = .ok (.bipush 50, 2) := by decide +kernel
theorem dX8_wall_148 : decode cX8_wall 148 = .ok (.if_icmp .ge 16, 3) := by decide +kernel
theorem dX8_wall_151 : decode cX8_wall 151 = .ok (.aload_n 0, 1) := by decide +kernel
theorem dX8_wall_152 : decode cX8_wall 152 = .ok (.getfield 7, 3) := by decide +kernel
theorem dX8_wall_155 : decode cX8_wall 155 = .ok (.iload_n 1, 1) := by decide +kernel
theorem dX8_wall_156 : decode cX8_wall 156 = .ok (.iconst 0, 1) := by decide +kernel
theorem dX8_wall_157 : decode cX8_wall 157 = .ok (.iastore, 1) := by decide +kernel
theorem dX8_wall_158 : decode cX8_wall 158 = .ok (.iinc 1 1, 3) := by decide +kernel
theorem dX8_wall_161 : decode cX8_wall 161 = .ok (.goto (-16), 3) := by decide +kernel
theorem dX8_wall_164 : decode cX8_wall 164 = .ok (.iconst 0, 1) := by decide +kernel
theorem dX8_wall_165 : decode cX8_wall 165 = .ok (.istore_n 1, 1) := by decide +kernel
theorem dX8_wall_166 : decode cX8_wall 166 = .ok (.iload_n 1, 1) := by decide +kernel
theorem dX8_wall_167 : decode cX8_wall 167 = .ok (.iconst 5, 1) := by decide +kernel
theorem dX8_wall_168 : decode cX8_wall 168 = .ok (.if_icmp .ge 170, 3) := by decide +kernel
theorem dX8_wall_171 : decode cX8_wall 171 = .ok (.aload_n 0, 1) := by decide +kernel
theorem dX8_wall_172 : decode cX8_wall 172 = .ok (.getfield 17, 3) := by decide +kernel
theorem dX8_wall_175 : decode cX8_wall 175 = .ok (.iload_n 1, 1) := by decide +kernel
theorem dX8_wall_176 : decode cX8_wall 176 = .ok (.aload_n 0, 1) := by decide +kernel
theorem dX8_wall_177 : decode cX8_wall 177 = .ok (.getfield 17, 3) := by decide +kernel
theorem dX8_wall_180 : decode cX8_wall 180 = .ok (.iconst 5, 1) := by decide +kernel
theorem dX8_wall_181 : decode cX8_wall 181 = .ok (.iload_n 1, 1) := by decide +kernel
theorem dX8_wall_182 : decode cX8_wall 182 = .ok (.iadd, 1) := by decide +kernel
theorem dX8_wall_183 : decode cX8_wall 183 = .ok (.iaload, 1) := by decide +kernel
theorem dX8_wall_184 : decode cX8_wall 184 = .ok (.iastore, 1) := by decide +kernel
theorem dX8_wall_185 : decode cX8_wall 185 = .ok (.aload_n 0, 1) := by decide +kernel
theorem dX8_wall_186 : decode cX8_wall 186 = .ok (.getfield 20, 3) := by decide +kernel
theorem dX8_wall_189 : decode cX8_wall 189 = .ok (.iload_n 1, 1) := by decide +kernel
theorem dX8_wall_190 : decode cX8_wall 190 = .ok (.aload_n 0, 1) := by decide +kernel
theorem dX8_wall_191 : decode cX8_wall 191 = .ok (.getfield 20, 3) := by decide +kernel
theorem dX8_wall_194 : decode cX8_wall 194 = .ok (.iconst 5, 1) := by decide +kernel
theorem dX8_wall_195 : decode cX8_wall 195 = .ok (.iload_n 1, 1) := by decide +kernel
theorem dX8_wall_196 : decode cX8_wall 196 = .ok (.iadd, 1) := by decide +kernel
theorem dX8_wall_197 : decode cX8_wall 197 = .ok (.iaload, 1) := by decide +kernel
theorem dX8_wall_198 : decode cX8_wall 198 = .ok (.iastore, 1) := by decide +kernel
theorem dX8_wall_199 : decode cX8_wall 199 = .ok (.aload_n 0, 1) := by decide +kernel
theorem dX8_wall_200 : decode cX8_wall 200 = .ok (.getfield 44, 3) := by decide +kernel
theorem dX8_wall_203 : decode cX8_wall 203 = .ok (.iload_n 1, 1) := by decide +kernel
theorem dX8_wall_204 : decode cX8_wall 204 = .ok (.aload_n 0, 1) := by decide +kernel
theorem dX8_wall_205 : decode cX8_wall 205 = .ok (.getfield 44, 3) := by decide +kernel
theorem dX8_wall_208 : decode cX8_wall 208 = .ok (.iconst 5, 1) := by decide +kernel
theorem dX8_wall_209 : decode cX8_wall 209 = .ok (.iload_n 1, 1) := by decide +kernel
theorem dX8_wall_210 : decode cX8_wall 210 = .ok (.iadd, 1) := by decide +kernel
theorem dX8_wall_211 : decode cX8_wall 211 = .ok (.iaload, 1) := by decide +kernel
theorem dX8_wall_212 : decode cX8_wall 212 = .ok (.iastore, 1) := by decide +kernel
theorem dX8_wall_213 : decode cX8_wall 213 = .ok (.aload_n 0, 1) := by decide +kernel
theorem dX8_wall_214 : decode cX8_wall 214 = .ok (.getfield 38, 3) := by decide +kernel
theorem dX8_wall_217 : decode cX8_wall 217 = .ok (.iload_n 1, 1) := by decide +kernel
theorem dX8_wall_218 : decode cX8_wall 218 = .ok (.aload_n 0, 1) := by decide +kernel
theorem dX8_wall_219 : decode cX8_wall 219 = .ok (.getfield 38, 3) := by decide +kernel
theorem dX8_wall_222 : decode cX8_wall 222 = .ok (.iconst 5, 1) := by decide +kernel
theorem dX8_wall_223 : decode cX8_wall 223 = .ok (.iload_n 1, 1) := by decide +kernel
theorem dX8_wall_224 : decode cX8_wall 224 = .ok (.iadd, 1) := by decide +kernel
theorem dX8_wall_225 : decode cX8_wall 225 = .ok (.iaload, 1) := by decide +kernel
theorem dX8_wall_226 : decode cX8_wall 226 = .ok (.iastore, 1) := by decide +kernel
theorem dX8_wall_227 : decode cX8_wall 227 = .ok (.aload_n 0, 1) := by decide +kernel
theorem dX8_wall_228 : decode cX8_wall 228 = .ok (.getfield 41, 3) := by decide +kernel
theorem dX8_wall_231 : decode cX8_wall 231 = .ok (.iload_n 1, 1) := by decide +kernel
theorem dX8_wall_232 : decode cX8_wall 232 = .ok (.aload_n 0, 1) := by decide +kernel
theorem dX8_wall_233 : decode cX8_wall 233 = .ok (.getfield 41, 3) := by decide +kernel
theorem dX8_wall_236 : decode cX8_wall 236 = .ok (.iconst 5, 1) := by decide +kernel
theorem dX8_wall_237 : decode cX8_wall 237 = .ok (.iload_n 1, 1) := by decide +kernel
theorem dX8_wall_238 : decode cX8_wall 238 = .ok (.iadd, 1) := by decide +kernel
theorem dX8_wall_239 : decode cX8_wall 239 = .ok (.iaload, 1) := by decide +kernel
theorem dX8_wall_240 : decode cX8_wall 240 = .ok (.iastore, 1) := by decide +kernel
theorem dX8_wall_241 : decode cX8_wall 241 = .ok (.aload_n 0, 1) := by decide +kernel
theorem dX8_wall_242 : decode cX8_wall 242 = .ok (.getfield 7, 3) := by decide +kernel
theorem dX8_wall_245 : decode cX8_wall 245 = .ok (.iload_n 1, 1) := by decide +kernel
theorem dX8_wall_246 : decode cX8_wall 246 = .ok (.aload_n 0, 1) := by decide +kernel
theorem dX8_wall_247 : decode cX8_wall 247 = .ok (.getfield 23, 3) := by decide +kernel
theorem dX8_wall_250 : decode cX8_wall 250 = .ok (.iconst 5, 1) := by decide +kernel
theorem dX8_wall_251 : decode cX8_wall 251 = .ok (.iload_n 1, 1) := by decide +kernel
theorem dX8_wall_252 : decode cX8_wall 252 = .ok (.iadd, 1) := by decide +kernel
theorem dX8_wall_253 : decode cX8_wall 253 = .ok (.iaload, 1) := by decide +kernel
theorem dX8_wall_254 : decode cX8_wall 254 = .ok (.iastore, 1) := by decide +kernel
theorem dX8_wall_255 : decode cX8_wall 255 = .ok (.aload_n 0, 1) := by decide +kernel
theorem dX8_wall_256 : decode cX8_wall 256 = .ok (.getfield 7, 3) := by decide +kernel
theorem dX8_wall_259 : decode cX8_wall 259 = .ok (.iconst 5, 1) := by decide +kernel
theorem dX8_wall_260 : decode cX8_wall 260 = .ok (.iload_n 1, 1) := by decide +kernel
theorem dX8_wall_261 : decode cX8_wall 261 = .ok (.iadd, 1) := by decide +kernel
theorem dX8_wall_262 : decode cX8_wall 262 = .ok (.aload_n 0, 1) := by decide +kernel
theorem dX8_wall_263 : decode cX8_wall 263 = .ok (.getfield 35, 3) := by decide +kernel
theorem dX8_wall_266 : decode cX8_wall 266 = .ok (.iconst 5, 1) := by decide +kernel
theorem dX8_wall_267 : decode cX8_wall 267 = .ok (.iload_n 1, 1) := by decide +kernel
theorem dX8_wall_268 : decode cX8_wall 268 = .ok (.iadd, 1) := by decide +kernel
theorem dX8_wall_269 : decode cX8_wall 269 = .ok (.iaload, 1) := by decide +kernel
theorem dX8_wall_270 : decode cX8_wall 270 = .ok (.iastore, 1) := by decide +kernel
theorem dX8_wall_271 : decode cX8_wall 271 = .ok (.aload_n 0, 1) := by decide +kernel
theorem dX8_wall_272 : decode cX8_wall 272 = .ok (.getfield 7, 3) := by decide +kernel
theorem dX8_wall_275 : decode cX8_wall 275 = .ok (.bipush 25, 2) := by decide +kernel
theorem dX8_wall_277 : decode cX8_wall 277 = .ok (.iload_n 1, 1) := by decide +kernel
theorem dX8_wall_278 : decode cX8_wall 278 = .ok (.iadd, 1) := by decide +kernel
theorem dX8_wall_279 : decode cX8_wall 279 = .ok (.aload_n 0, 1) := by decide +kernel
theorem dX8_wall_280 : decode cX8_wall 280 = .ok (.getfield 26, 3) := by decide +kernel
theorem dX8_wall_283 : decode cX8_wall 283 = .ok (.iconst 5, 1) := by decide +kernel
theorem dX8_wall_284 : decode cX8_wall 284 = .ok (.iload_n 1, 1) := by decide +kernel
theorem dX8_wall_285 : decode cX8_wall 285 = .ok (.iadd, 1) := by decide +kernel
theorem dX8_wall_286 : decode cX8_wall 286 = .ok (.iaload, 1) := by decide +kernel
theorem dX8_wall_287 : decode cX8_wall 287 = .ok (.iastore, 1) := by decide +kernel
theorem dX8_wall_288 : decode cX8_wall 288 = .ok (.aload_n 0, 1) := by decide +kernel
theorem dX8_wall_289 : decode cX8_wall 289 = .ok (.getfield 7, 3) := by decide +kernel
theorem dX8_wall_292 : decode cX8_wall 292 = .ok (.bipush 30, 2) := by decide +kernel
theorem dX8_wall_294 : decode cX8_wall 294 = .ok (.iload_n 1, 1) := by decide +kernel
theorem dX8_wall_295 : decode cX8_wall 295 = .ok (.iadd, 1) := by decide +kernel
theorem dX8_wall_296 : decode cX8_wall 296 = .ok (.aload_n 0, 1) := by decide +kernel
theorem dX8_wall_297 : decode cX8_wall 297 = .ok (.getfield 29, 3) := by decide +kernel
theorem dX8_wall_300 : decode cX8_wall 300 = .ok (.iconst 5, 1) := by decide +kernel
theorem dX8_wall_301 : decode cX8_wall 301 = .ok (.iload_n 1, 1) := by decide +kernel
theorem dX8_wall_302 : decode cX8_wall 302 = .ok (.iadd, 1) := by decide +kernel
theorem dX8_wall_303 : decode cX8_wall 303 = .ok (.iaload, 1) := by decide +kernel
theorem dX8_wall_304 : decode cX8_wall 304 = .ok (.iastore, 1) := by decide +kernel
theorem dX8_wall_305 : decode cX8_wall 305 = .ok (.aload_n 0, 1) := by decide +kernel
theorem dX8_wall_306 : decode cX8_wall 306 = .ok (.getfield 7, 3) := by decide +kernel
theorem dX8_wall_309 : decode cX8_wall 309 = .ok (.bipush 35, 2) := by decide +kernel
theorem dX8_wall_311 : decode cX8_wall 311 = .ok (.iload_n 1, 1) := by decide +kernel
theorem dX8_wall_312 : decode cX8_wall 312 = .ok (.iadd, 1) := by decide +kernel
theorem dX8_wall_313 : decode cX8_wall 313 = .ok (.aload_n 0, 1) := by decide +kernel
theorem dX8_wall_314 : decode cX8_wall 314 = .ok (.getfield 32, 3) := by decide +kernel
theorem dX8_wall_317 : decode cX8_wall 317 = .ok (.iconst 5, 1) := by decide +kernel
theorem dX8_wall_318 : decode cX8_wall 318 = .ok (.iload_n 1, 1) := by decide +kernel
theorem dX8_wall_319 : decode cX8_wall 319 = .ok (.iadd, 1) := by decide +kernel
theorem dX8_wall_320 : decode cX8_wall 320 = .ok (.iaload, 1) := by decide +kernel
theorem dX8_wall_321 : decode cX8_wall 321 = .ok (.iastore, 1) := by decide +kernel
theorem dX8_wall_322 : decode cX8_wall 322 = .ok (.aload_n 0, 1) := by decide +kernel
theorem dX8_wall_323 : decode cX8_wall 323 = .ok (.getfield 7, 3) := by decide +kernel
theorem dX8_wall_326 : decode cX8_wall 326 = .ok (.bipush 40, 2) := by decide +kernel
theorem dX8_wall_328 : decode cX8_wall 328 = .ok (.iload_n 1, 1) := by decide +kernel
theorem dX8_wall_329 : decode cX8_wall 329 = .ok (.iadd, 1) := by decide +kernel
theorem dX8_wall_330 : decode cX8_wall 330 = .ok (.iload_n 1, 1) := by decide +kernel
theorem dX8_wall_331 : decode cX8_wall 331 = .ok (.iastore, 1) := by decide +kernel
theorem dX8_wall_332 : decode cX8_wall 332 = .ok (.iinc 1 1, 3) := by decide +kernel
theorem dX8_wall_335 : decode cX8_wall 335 = .ok (.goto (-169), 3) := by decide +kernel
theorem dX8_wall_338 : decode cX8_wall 338 = .ok (.aload_n 0, 1) := by decide +kernel
theorem dX8_wall_339 : decode cX8_wall 339 = .ok (.iconst 0, 1) := by decide +kernel
theorem dX8_wall_340 : decode cX8_wall 340 = .ok (.putfield 173, 3) := by decide +kernel
theorem dX8_wall_343 : decode cX8_wall 343 = .ok (.aload_n 0, 1) := by decide +kernel
theorem dX8_wall_344 : decode cX8_wall 344 = .ok (.iconst 0, 1) := by decide +kernel
theorem dX8_wall_345 : decode cX8_wall 345 = .ok (.putfield 176, 3) := by decide +kernel
theorem dX8_wall_348 : decode cX8_wall 348 = .ok (.aload_n 0, 1) := by decide +kernel
theorem dX8_wall_349 : decode cX8_wall 349 = .ok (.getfield 13, 3) := by decide +kernel
theorem dX8_wall_352 : decode cX8_wall 352 = .ok (.iconst 0, 1) := by decide +kernel
theorem dX8_wall_353 : decode cX8_wall 353 = .ok (.iconst 0, 1) := by decide +kernel
theorem dX8_wall_354 : decode cX8_wall 354 = .ok (.bastore, 1) := by decide +kernel
theorem dX8_wall_355 : decode cX8_wall 355 = .ok (.aload_n 0, 1) := by decide +kernel
theorem dX8_wall_356 : decode cX8_wall 356 = .ok (.getfield 13, 3) := by decide +kernel
theorem dX8_wall_359 : decode cX8_wall 359 = .ok (.iconst 1, 1) := by decide +kernel
theorem dX8_wall_360 : decode cX8_wall 360 = .ok (.iconst 0, 1) := by decide +kernel
theorem dX8_wall_361 : decode cX8_wall 361 = .ok (.bastore, 1) := by decide +kernel
theorem dX8_wall_362 : decode cX8_wall 362 = .ok (.aload_n 0, 1) := by decide +kernel
theorem dX8_wall_363 : decode cX8_wall 363 = .ok (.getfield 167, 3) := by decide +kernel
theorem dX8_wall_366 : decode cX8_wall 366 = .ok (.ireturn, 1) := by decide +kernel
theorem dX8_fault_0 : decode cX8_fault 0 = .ok (.aload_n 0, 1) := by decide +kernel
theorem dX8_fault_1 : decode cX8_fault 1 = .ok (.getfield 50, 3) := by decide +kernel
theorem dX8_fault_4 : decode cX8_fault 4 = .ok (.ireturn, 1) := by decide +kernel
set_option maxRecDepth 20000 in
theorem ggX8_isKind_X8_in : GoodIn wsX8_isKind wsX8_in := goodIn_r _ [5] (by decide +kernel) (by decide +kernel)
