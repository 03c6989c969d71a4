theorem dX5_lotAnswer_49 : decode cX5_lotAnswer 49 = .ok (.aload_n 0, 1) := by decide +kernel
theorem dX5_lotAnswer_50 : decode cX5_lotAnswer 50 = .ok (.getfield 10, 3) := by decide +kernel
theorem dX5_lotAnswer_53 : decode cX5_lotAnswer 53 = .ok (.getfield 119, 3) := by decide +kernel
theorem dX5_lotAnswer_56 : decode cX5_lotAnswer 56 = .ok (.getfield 195, 3) := by decide +kernel
theorem dX5_lotAnswer_59 : decode cX5_lotAnswer 59 = .ok (.iload_n 1, 1) := by decide +kernel
theorem dX5_lotAnswer_60 : decode cX5_lotAnswer 60 = .ok (.iaload, 1) := by decide +kernel
theorem dX5_lotAnswer_61 : decode cX5_lotAnswer 61 = .ok (.ireturn, 1) := by decide +kernel
theorem dX5_lotAnswer_62 : decode cX5_lotAnswer 62 = .ok (.aload_n 0, 1) := by decide +kernel
theorem dX5_lotAnswer_63 : decode cX5_lotAnswer 63 = .ok (.getfield 10, 3) := by decide +kernel
theorem dX5_lotAnswer_66 : decode cX5_lotAnswer 66 = .ok (.getfield 119, 3) := by decide +kernel
theorem dX5_lotAnswer_69 : decode cX5_lotAnswer 69 = .ok (.getfield 183, 3) := by decide +kernel
theorem dX5_lotAnswer_72 : decode cX5_lotAnswer 72 = .ok (.iload_n 1, 1) := by decide +kernel
theorem dX5_lotAnswer_73 : decode cX5_lotAnswer 73 = .ok (.iaload, 1) := by decide +kernel
theorem dX5_lotAnswer_74 : decode cX5_lotAnswer 74 = .ok (.ireturn, 1) := by decide +kernel
theorem dX5_lotAnswer_75 : decode cX5_lotAnswer 75 = .ok (.aload_n 0, 1) := by decide +kernel
theorem dX5_lotAnswer_76 : decode cX5_lotAnswer 76 = .ok (.getfield 10, 3) := by decide +kernel
theorem dX5_lotAnswer_79 : decode cX5_lotAnswer 79 = .ok (.getfield 119, 3) := by decide +kernel
theorem dX5_lotAnswer_82 : decode cX5_lotAnswer 82 = .ok (.getfield 186, 3) := by decide +kernel
theorem dX5_lotAnswer_85 : decode cX5_lotAnswer 85 = .ok (.iload_n 1, 1) := by decide +kernel
theorem dX5_lotAnswer_86 : decode cX5_lotAnswer 86 = .ok (.iaload, 1) := by decide +kernel
theorem dX5_lotAnswer_87 : decode cX5_lotAnswer 87 = .ok (.ireturn, 1) := by decide +kernel
theorem dX5_lotAnswer_88 : decode cX5_lotAnswer 88 = .ok (.aload_n 0, 1) := by decide +kernel
theorem dX5_lotAnswer_89 : decode cX5_lotAnswer 89 = .ok (.getfield 10, 3) := by decide +kernel
theorem dX5_lotAnswer_92 : decode cX5_lotAnswer 92 = .ok (.getfield 119, 3) := by decide +kernel
theorem dX5_lotAnswer_95 : decode cX5_lotAnswer 95 = .ok (.getfield 145, 3) := by decide +kernel
theorem dX5_lotAnswer_98 : decode cX5_lotAnswer 98 = .ok (.iload_n 1, 1) := by decide +kernel
theorem dX5_lotAnswer_99 : decode cX5_lotAnswer 99 = .ok (.iaload, 1) := by decide +kernel
theorem dX5_lotAnswer_100 : decode cX5_lotAnswer 100 = .ok (.ireturn, 1) := by decide +kernel
theorem dX5_lotAnswer_101 : decode cX5_lotAnswer 101 = .ok (.aload_n 0, 1) := by decide +kernel
theorem dX5_lotAnswer_102 : decode cX5_lotAnswer 102 = .ok (.getfield 10, 3) := by decide +kernel
theorem dX5_lotAnswer_105 : decode cX5_lotAnswer 105 = .ok (.getfield 102, 3) := by decide +kernel
theorem dX5_lotAnswer_108 : decode cX5_lotAnswer 108 = .ok (.iload_n 1, 1) := by decide +kernel
theorem dX5_lotAnswer_109 : decode cX5_lotAnswer 109 = .ok (.invokevirtual 302, 3) := by decide +kernel
theorem dX5_lotAnswer_112 : decode cX5_lotAnswer 112 = .ok (.ireturn, 1) := by decide +kernel
set_option maxRecDepth 20000 in
theorem ggX5_manyAnswer_X4_today : GoodIn wsX5_manyAnswer wsX4_today := goodIn_r _ [19, 20, 76, 77, 78] (by decide +kernel) (by decide +kernel)
set_option maxRecDepth 20000 in
theorem gX5_manyAnswer_X4_today : GoodIn wsX5_manyAnswer (wsV RX5 128 RX4 yX4_today wsX4_today) := goodIn_app (goodIn_of _ (by decide +kernel)) ggX5_manyAnswer_X4_today
set_option maxRecDepth 20000 in
theorem ggX5_manyAnswer_X4_ageOn : GoodIn wsX5_manyAnswer wsX4_ageOn := goodIn_r _ [24, 25, 76, 77, 78] (by decide +kernel) (by decide +kernel)
set_option maxRecDepth 20000 in
theorem gX5_manyAnswer_X4_ageOn : GoodIn wsX5_manyAnswer (wsV RX5 43 RX4 yX4_ageOn wsX4_ageOn) := goodIn_app (goodIn_of _ (by decide +kernel)) ggX5_manyAnswer_X4_ageOn
set_option maxRecDepth 20000 in
theorem ggX5_manyAnswer_X4_springOf : GoodIn wsX5_manyAnswer wsX4_springOf := goodIn_r _ [29, 30, 31, 32, 33, 34, 35, 36] (by decide +kernel) (by decide +kernel)
set_option maxRecDepth 20000 in
theorem gX5_manyAnswer_X4_springOf : GoodIn wsX5_manyAnswer (wsV RX5 305 RX4 yX4_springOf wsX4_springOf) := goodIn_app (goodIn_of _ (by decide +kernel)) ggX5_manyAnswer_X4_springOf
set_option maxRecDepth 20000 in
theorem ggX5_manyAnswer_X0_countOf : GoodIn wsX5_manyAnswer wsX0_countOf := goodIn_r _ [41, 42, 43, 90, 91, 92, 93, 94, 95, 96] (by decide +kernel) (by decide +kernel)
set_option maxRecDepth 20000 in
theorem gX5_manyAnswer_X0_countOf : GoodIn wsX5_manyAnswer (wsV RX5 157 RX0 yX0_countOf wsX0_countOf) := goodIn_app (goodIn_of _ (by decide +kernel)) ggX5_manyAnswer_X0_countOf
set_option maxRecDepth 20000 in
theorem ggX5_manyAnswer_X2_allSparks : GoodIn wsX5_manyAnswer wsX2_allSparks := goodIn_r _ [48, 49, 50, 85, 86, 87, 88, 89] (by decide +kernel) (by decide +kernel)
set_option maxRecDepth 20000 in
theorem gX5_manyAnswer_X2_allSparks : GoodIn wsX5_manyAnswer (wsV RX5 311 RX2 yX2_allSparks wsX2_allSparks) := goodIn_app (goodIn_of _ (by decide +kernel)) ggX5_manyAnswer_X2_allSparks
set_option maxRecDepth 20000 in
theorem ggX5_manyAnswer_X1_isAwake : GoodIn wsX5_manyAnswer wsX1_isAwake := goodIn_r _ [55, 56, 57, 58, 59, 60, 61, 18, 62, 20, 69, 70, 71, 72, 73, 74, 75, 76, 77, 78] (by decide +kernel) (by decide +kernel)
set_option maxRecDepth 20000 in
theorem gX5_manyAnswer_X1_isAwake : GoodIn wsX5_manyAnswer (wsV RX5 95 RX1 yX1_isAwake wsX1_isAwake) := goodIn_app (goodIn_of _ (by decide +kernel)) ggX5_manyAnswer_X1_isAwake
theorem dX5_manyAnswer_0 : decode cX5_manyAnswer 0 = .ok (.iload_n 1, 1) := by decide +kernel
theorem dX5_manyAnswer_1 : decode cX5_manyAnswer 1 = .ok (.tableswitch 278 0 15 #[79, 90, 101, 122, 153, 164, 175, 186, 197, 209, 221, 233, 241, 246, 257, 273], 79) := by decide +kernel
theorem dX5_manyAnswer_80 : decode cX5_manyAnswer 80 = .ok (.aload_n 0, 1) := by decide +kernel
theorem dX5_manyAnswer_81 : decode cX5_manyAnswer 81 = .ok (.getfield 10, 3) := by decide +kernel
theorem dX5_manyAnswer_84 : decode cX5_manyAnswer 84 = .ok (.getfield 30, 3) := by decide +kernel
theorem dX5_manyAnswer_87 : decode cX5_manyAnswer 87 = .ok (.getfield 40, 3) := by decide +kernel
theorem dX5_manyAnswer_90 : decode cX5_manyAnswer 90 = .ok (.ireturn, 1) := by decide +kernel
theorem dX5_manyAnswer_91 : decode cX5_manyAnswer 91 = .ok (.aload_n 0, 1) := by decide +kernel
theorem dX5_manyAnswer_92 : decode cX5_manyAnswer 92 = .ok (.getfield 10, 3) := by decide +kernel
theorem dX5_manyAnswer_95 : decode cX5_manyAnswer 95 = .ok (.getfield 30, 3) := by decide +kernel
theorem dX5_manyAnswer_98 : decode cX5_manyAnswer 98 = .ok (.invokevirtual 128, 3) := by decide +kernel
theorem dX5_manyAnswer_101 : decode cX5_manyAnswer 101 = .ok (.ireturn, 1) := by decide +kernel
theorem dX5_manyAnswer_102 : decode cX5_manyAnswer 102 = .ok (.aload_n 0, 1) := by decide +kernel
theorem dX5_manyAnswer_103 : decode cX5_manyAnswer 103 = .ok (.getfield 10, 3) := by decide +kernel
theorem dX5_manyAnswer_106 : decode cX5_manyAnswer 106 = .ok (.getfield 30, 3) := by decide +kernel
theorem dX5_manyAnswer_109 : decode cX5_manyAnswer 109 = .ok (.aload_n 0, 1) := by decide +kernel
theorem dX5_manyAnswer_110 : decode cX5_manyAnswer 110 = .ok (.getfield 10, 3) := by decide +kernel
theorem dX5_manyAnswer_113 : decode cX5_manyAnswer 113 = .ok (.getfield 30, 3) := by decide +kernel
theorem dX5_manyAnswer_116 : decode cX5_manyAnswer 116 = .ok (.getfield 40, 3) := by decide +kernel
theorem dX5_manyAnswer_119 : decode cX5_manyAnswer 119 = .ok (.invokevirtual 43, 3) := by decide +kernel
theorem dX5_manyAnswer_122 : decode cX5_manyAnswer 122 = .ok (.ireturn, 1) := by decide +kernel
theorem dX5_manyAnswer_123 : decode cX5_manyAnswer 123 = .ok (.aload_n 0, 1) := by decide +kernel
theorem dX5_manyAnswer_124 : decode cX5_manyAnswer 124 = .ok (.getfield 10, 3) := by decide +kernel
theorem dX5_manyAnswer_127 : decode cX5_manyAnswer 127 = .ok (.getfield 30, 3) := by decide +kernel
theorem dX5_manyAnswer_130 : decode cX5_manyAnswer 130 = .ok (.aload_n 0, 1) := by decide +kernel
theorem dX5_manyAnswer_131 : decode cX5_manyAnswer 131 = .ok (.getfield 10, 3) := by decide +kernel
theorem dX5_manyAnswer_134 : decode cX5_manyAnswer 134 = .ok (.getfield 30, 3) := by decide +kernel
theorem dX5_manyAnswer_137 : decode cX5_manyAnswer 137 = .ok (.aload_n 0, 1) := by decide +kernel
theorem dX5_manyAnswer_138 : decode cX5_manyAnswer 138 = .ok (.getfield 10, 3) := by decide +kernel
theorem dX5_manyAnswer_141 : decode cX5_manyAnswer 141 = .ok (.getfield 30, 3) := by decide +kernel
theorem dX5_manyAnswer_144 : decode cX5_manyAnswer 144 = .ok (.getfield 40, 3) := by decide +kernel
theorem dX5_manyAnswer_147 : decode cX5_manyAnswer 147 = .ok (.invokevirtual 43, 3) := by decide +kernel
theorem dX5_manyAnswer_150 : decode cX5_manyAnswer 150 = .ok (.invokevirtual 305, 3) := by decide +kernel
theorem dX5_manyAnswer_153 : decode cX5_manyAnswer 153 = .ok (.ireturn, 1) := by decide +kernel
theorem dX5_manyAnswer_154 : decode cX5_manyAnswer 154 = .ok (.aload_n 0, 1) := by decide +kernel
theorem dX5_manyAnswer_155 : decode cX5_manyAnswer 155 = .ok (.getfield 10, 3) := by decide +kernel
theorem dX5_manyAnswer_158 : decode cX5_manyAnswer 158 = .ok (.getfield 70, 3) := by decide +kernel
theorem dX5_manyAnswer_161 : decode cX5_manyAnswer 161 = .ok (.getfield 74, 3) := by decide +kernel
theorem dX5_manyAnswer_164 : decode cX5_manyAnswer 164 = .ok (.ireturn, 1) := by decide +kernel
theorem dX5_manyAnswer_165 : decode cX5_manyAnswer 165 = .ok (.aload_n 0, 1) := by decide +kernel
theorem dX5_manyAnswer_166 : decode cX5_manyAnswer 166 = .ok (.getfield 10, 3) := by decide +kernel
theorem dX5_manyAnswer_169 : decode cX5_manyAnswer 169 = .ok (.getfield 70, 3) := by decide +kernel
theorem dX5_manyAnswer_172 : decode cX5_manyAnswer 172 = .ok (.getfield 81, 3) := by decide +kernel
theorem dX5_manyAnswer_175 : decode cX5_manyAnswer 175 = .ok (.ireturn, 1) := by decide +kernel
theorem dX5_manyAnswer_176 : decode cX5_manyAnswer 176 = .ok (.aload_n 0, 1) := by decide +kernel
theorem dX5_manyAnswer_177 : decode cX5_manyAnswer 177 = .ok (.getfield 10, 3) := by decide +kernel
theorem dX5_manyAnswer_180 : decode cX5_manyAnswer 180 = .ok (.getfield 102, 3) := by decide +kernel
theorem dX5_manyAnswer_183 : decode cX5_manyAnswer 183 = .ok (.getfield 106, 3) := by decide +kernel
theorem dX5_manyAnswer_186 : decode cX5_manyAnswer 186 = .ok (.ireturn, 1) := by decide +kernel
theorem dX5_manyAnswer_187 : decode cX5_manyAnswer 187 = .ok (.aload_n 0, 1) := by decide +kernel
theorem dX5_manyAnswer_188 : decode cX5_manyAnswer 188 = .ok (.getfield 10, 3) := by decide +kernel
theorem dX5_manyAnswer_191 : decode cX5_manyAnswer 191 = .ok (.getfield 119, 3) := by decide +kernel
theorem dX5_manyAnswer_194 : decode cX5_manyAnswer 194 = .ok (.getfield 123, 3) := by decide +kernel
theorem dX5_manyAnswer_197 : decode cX5_manyAnswer 197 = .ok (.ireturn, 1) := by decide +kernel
theorem dX5_manyAnswer_198 : decode cX5_manyAnswer 198 = .ok (.aload_n 0, 1) := by decide +kernel
theorem dX5_manyAnswer_199 : decode cX5_manyAnswer 199 = .ok (.getfield 10, 3) := by decide +kernel
theorem dX5_manyAnswer_202 : decode cX5_manyAnswer 202 = .ok (.getfield 119, 3) := by decide +kernel
theorem dX5_manyAnswer_205 : decode cX5_manyAnswer 205 = .ok (.iconst 0, 1) := by decide +kernel
theorem dX5_manyAnswer_206 : decode cX5_manyAnswer 206 = .ok (.invokevirtual 157, 3) := by decide +kernel
theorem dX5_manyAnswer_209 : decode cX5_manyAnswer 209 = .ok (.ireturn, 1) := by decide +kernel
theorem dX5_manyAnswer_210 : decode cX5_manyAnswer 210 = .ok (.aload_n 0, 1) := by decide +kernel
theorem dX5_manyAnswer_211 : decode cX5_manyAnswer 211 = .ok (.getfield 10, 3) := by decide +kernel
theorem dX5_manyAnswer_214 : decode cX5_manyAnswer 214 = .ok (.getfield 119, 3) := by decide +kernel
theorem dX5_manyAnswer_217 : decode cX5_manyAnswer 217 = .ok (.iconst 2, 1) := by decide +kernel
theorem dX5_manyAnswer_218 : decode cX5_manyAnswer 218 = .ok (.invokevirtual 157, 3) := by decide +kernel
theorem dX5_manyAnswer_221 : decode cX5_manyAnswer 221 = .ok (.ireturn, 1) := by decide +kernel
theorem dX5_manyAnswer_222 : decode cX5_manyAnswer 222 = .ok (.aload_n 0, 1) := by decide +kernel
theorem dX5_manyAnswer_223 : decode cX5_manyAnswer 223 = .ok (.getfield 10, 3) := by decide +kernel
theorem dX5_manyAnswer_226 : decode cX5_manyAnswer 226 = .ok (.getfield 119, 3) := by decide +kernel
theorem dX5_manyAnswer_229 : decode cX5_manyAnswer 229 = .ok (.iconst 3, 1) := by decide +kernel
theorem dX5_manyAnswer_230 : decode cX5_manyAnswer 230 = .ok (.invokevirtual 157, 3) := by decide +kernel
theorem dX5_manyAnswer_233 : decode cX5_manyAnswer 233 = .ok (.ireturn, 1) := by decide +kernel
theorem dX5_manyAnswer_234 : decode cX5_manyAnswer 234 = .ok (.aload_n 0, 1) := by decide +kernel
theorem dX5_manyAnswer_235 : decode cX5_manyAnswer 235 = .ok (.getfield 10, 3) := by decide +kernel
theorem dX5_manyAnswer_238 : decode cX5_manyAnswer 238 = .ok (.getfield 308, 3) := by decide +kernel
theorem dX5_manyAnswer_241 : decode cX5_manyAnswer 241 = .ok (.ireturn, 1) := by decide +kernel
theorem dX5_manyAnswer_242 : decode cX5_manyAnswer 242 = .ok (.aload_n 0, 1) := by decide +kernel
theorem dX5_manyAnswer_243 : decode cX5_manyAnswer 243 = .ok (.getfield 206, 3) := by decide +kernel
theorem dX5_manyAnswer_246 : decode cX5_manyAnswer 246 = .ok (.ireturn, 1) := by decide +kernel
theorem dX5_manyAnswer_247 : decode cX5_manyAnswer 247 = .ok (.aload_n 0, 1) := by decide +kernel
theorem dX5_manyAnswer_248 : decode cX5_manyAnswer 248 = .ok (.getfield 10, 3) := by decide +kernel
theorem dX5_manyAnswer_251 : decode cX5_manyAnswer 251 = .ok (.getfield 102, 3) := by decide +kernel
theorem dX5_manyAnswer_254 : decode cX5_manyAnswer 254 = .ok (.invokevirtual 311, 3) := by decide +kernel
theorem dX5_manyAnswer_257 : decode cX5_manyAnswer 257 = .ok (.ireturn, 1) := by decide +kernel
theorem dX5_manyAnswer_258 : decode cX5_manyAnswer 258 = .ok (.aload_n 0, 1) := by decide +kernel
theorem dX5_manyAnswer_259 : decode cX5_manyAnswer 259 = .ok (.getfield 10, 3) := by decide +kernel
theorem dX5_manyAnswer_262 : decode cX5_manyAnswer 262 = .ok (.invokevirtual 95, 3) := by decide +kernel
theorem dX5_manyAnswer_265 : decode cX5_manyAnswer 265 = .ok (.ifCond .eq 7, 3) := by decide +kernel
theorem dX5_manyAnswer_268 : decode cX5_manyAnswer 268 = .ok (.iconst 1, 1) := by decide +kernel
theorem dX5_manyAnswer_269 : decode cX5_manyAnswer 269 = .ok (.goto 4, 3) := by decide +kernel
theorem dX5_manyAnswer_272 : decode cX5_manyAnswer 272 = .ok (.iconst 0, 1) := by decide +kernel
theorem dX5_manyAnswer_273 : decode cX5_manyAnswer 273 = .ok (.ireturn, 1) := by decide +kernel
theorem dX5_manyAnswer_274 : decode cX5_manyAnswer 274 = .ok (.aload_n 0, 1) := by decide +kernel
theorem dX5_manyAnswer_275 : decode cX5_manyAnswer 275 = .ok (.getfield 99, 3) := by decide +kernel
theorem dX5_manyAnswer_278 : decode cX5_manyAnswer 278 = .ok (.ireturn, 1) := by decide +kernel
theorem dX5_manyAnswer_279 : decode cX5_manyAnswer 279 = .ok (.aload_n 0, 1) := by decide +kernel
theorem dX5_manyAnswer_280 : decode cX5_manyAnswer 280 = .ok (.getfield 61, 3) := by decide +kernel
theorem dX5_manyAnswer_283 : decode cX5_manyAnswer 283 = .ok (.ifCond .eq 7, 3) := by decide +kernel
theorem dX5_manyAnswer_286 : decode cX5_manyAnswer 286 = .ok (.iconst 1, 1) := by decide +kernel
theorem dX5_manyAnswer_287 : decode cX5_manyAnswer 287 = .ok (.goto 4, 3) := by decide +kernel
theorem dX5_manyAnswer_290 : decode cX5_manyAnswer 290 = .ok (.iconst 0, 1) := by decide +kernel
theorem dX5_manyAnswer_291 : decode cX5_manyAnswer 291 = .ok (.ireturn, 1) := by decide +kernel
set_option maxRecDepth 20000 in
theorem ggX5_ticksToDone_X1_copyFrom : GoodIn wsX5_ticksToDone wsX1_copyFrom := goodIn_r _ [9, 10, 11, 12, 13, 14, 15, 16, 17, 18, 19, 20, 21, 22, 23, 24, 25, 26, 27, 28, 29, 30, 31, 32, 33, 34, 35, 36, 37, 38, 39, 40, 41, 42, 43, 44, 45, 46, 47, 48, 49, 50, 51, 52, 53, 54, 55, 56, 57, 58, 59, 60, 61, 62, 189, 190, 191, 192, 193, 194, 195, 203, 204, 205, 206, 207, 208, 209, 210, 211, 196, 197, 198, 199, 200, 201, 202, 212, 213, 214, 215, 216] (by decide +kernel) (by decide +kernel)
set_option maxRecDepth 20000 in
theorem gX5_ticksToDone_X1_copyFrom : GoodIn wsX5_ticksToDone (wsV RX5 250 RX1 yX1_copyFrom wsX1_copyFrom) := goodIn_app (goodIn_of _ (by decide +kernel)) ggX5_ticksToDone_X1_copyFrom
set_option maxRecDepth 20000 in
theorem ggX5_ticksToDone_X1_goBy : GoodIn wsX5_ticksToDone wsX1_goBy := goodIn_r _ [66, 11, 10, 67, 13, 68, 12, 16, 69, 70, 71, 72, 20, 73, 74, 75, 76, 24, 77, 78, 79, 80, 81, 82, 83, 84, 85, 86, 87, 23, 88, 89, 90, 91, 92, 93, 94, 95, 96, 97, 98, 99, 100, 101, 102, 103, 104, 105, 28, 106, 107, 108, 109, 110, 32, 30, 111, 31, 112, 113, 114, 115, 116, 117, 118, 119, 120, 121, 122, 123, 35, 33, 124, 125, 126, 127, 128, 34, 129, 130, 131, 132, 8, 133, 14, 15, 134, 135, 136, 137, 22, 138, 139, 140, 55, 141, 62, 60, 59, 142, 143, 144, 145, 57, 146, 147, 148, 39, 149, 51, 150, 151, 152, 153, 154, 155, 156, 157, 158, 159, 160, 50, 46, 49, 161, 162, 163, 164, 165, 166, 167, 168, 169, 170, 171, 172, 173, 174, 175, 176, 61, 177, 178, 179, 180, 181, 182, 189, 190, 191, 192, 193, 194, 195, 203, 204, 205, 206, 207, 208, 209, 210, 211, 212, 213, 214, 215, 216, 196, 197, 198, 199, 200, 201, 202] (by decide +kernel) (by decide +kernel)
set_option maxRecDepth 20000 in
theorem gX5_ticksToDone_X1_goBy : GoodIn wsX5_ticksToDone (wsV RX5 314 RX1 yX1_goBy wsX1_goBy) := goodIn_app (goodIn_of _ (by decide +kernel)) ggX5_ticksToDone_X1_goBy
theorem dX5_ticksToDone_0 : decode cX5_ticksToDone 0 = .ok (.aload_n 0, 1) := by decide +kernel
theorem dX5_ticksToDone_1 : decode cX5_ticksToDone 1 = .ok (.getfield 10, 3) := by decide +kernel
theorem dX5_ticksToDone_4 : decode cX5_ticksToDone 4 = .ok (.getfield 119, 3) := by decide +kernel
theorem dX5_ticksToDone_7 : decode cX5_ticksToDone 7 = .ok (.getfield 145, 3) := by decide +kernel
theorem dX5_ticksToDone_10 : decode cX5_ticksToDone 10 = .ok (.iload_n 1, 1) := by decide +kernel
theorem dX5_ticksToDone_11 : decode cX5_ticksToDone 11 = .ok (.iaload, 1) := by decide +kernel
theorem dX5_ticksToDone_12 : decode cX5_ticksToDone 12 = .ok (.istore_n 2, 1) := by decide +kernel
theorem dX5_ticksToDone_13 : decode cX5_ticksToDone 13 = .ok (.iload_n 2, 1) := by decide +kernel
theorem dX5_ticksToDone_14 : decode cX5_ticksToDone 14 = .ok (.iconst 2, 1) := by decide +kernel
theorem dX5_ticksToDone_15 : decode cX5_ticksToDone 15 = .ok (.if_icmp .eq 8, 3) := by decide +kernel
theorem dX5_ticksToDone_18 : decode cX5_ticksToDone 18 = .ok (.iload_n 2, 1) := by decide +kernel
theorem dX5_ticksToDone_19 : decode cX5_ticksToDone 19 = .ok (.iconst 3, 1) := by decide +kernel
theorem dX5_ticksToDone_20 : decode cX5_ticksToDone 20 = .ok (.if_icmp .ne 5, 3) := by decide +kernel
theorem dX5_ticksToDone_23 : decode cX5_ticksToDone 23 = .ok (.iconst 0, 1) := by decide +kernel
theorem dX5_ticksToDone_24 : decode cX5_ticksToDone 24 = .ok (.ireturn, 1) := by decide +kernel
theorem dX5_ticksToDone_25 : decode cX5_ticksToDone 25 = .ok (.iload_n 2, 1) := by decide +kernel
theorem dX5_ticksToDone_26 : decode cX5_ticksToDone 26 = .ok (.ifCond .ne 5, 3) := by decide +kernel
theorem dX5_ticksToDone_29 : decode cX5_ticksToDone 29 = .ok (.iconst (-1), 1) := by decide +kernel
theorem dX5_ticksToDone_30 : decode cX5_ticksToDone 30 = .ok (.ireturn, 1) := by decide +kernel
theorem dX5_ticksToDone_31 : decode cX5_ticksToDone 31 = .ok (.aload_n 0, 1) := by decide +kernel
theorem dX5_ticksToDone_32 : decode cX5_ticksToDone 32 = .ok (.getfield 16, 3) := by decide +kernel
theorem dX5_ticksToDone_35 : decode cX5_ticksToDone 35 = .ok (.aload_n 0, 1) := by decide +kernel
theorem dX5_ticksToDone_36 : decode cX5_ticksToDone 36 = .ok (.getfield 10, 3) := by decide +kernel
theorem dX5_ticksToDone_39 : decode cX5_ticksToDone 39 = .ok (.invokevirtual 250, 3) := by decide +kernel
theorem dX5_ticksToDone_42 : decode cX5_ticksToDone 42 = .ok (.iconst 1, 1) := by decide +kernel
theorem dX5_ticksToDone_43 : decode cX5_ticksToDone 43 = .ok (.istore_n 3, 1) := by decide +kernel
theorem dX5_ticksToDone_44 : decode cX5_ticksToDone 44 = .ok (.iload_n 3, 1) := by decide +kernel
theorem dX5_ticksToDone_45 : decode cX5_ticksToDone 45 = .ok (.sipush 300, 3) := by decide +kernel
theorem dX5_ticksToDone_48 : decode cX5_ticksToDone 48 = .ok (.if_icmp .gt 34, 3) := by decide +kernel
theorem dX5_ticksToDone_51 : decode cX5_ticksToDone 51 = .ok (.aload_n 0, 1) := by decide +kernel
theorem dX5_ticksToDone_52 : decode cX5_ticksToDone 52 = .ok (.getfield 16, 3) := by decide +kernel
theorem dX5_ticksToDone_55 : decode cX5_ticksToDone 55 = .ok (.invokevirtual 314, 3) := by decide +kernel
theorem dX5_ticksToDone_58 : decode cX5_ticksToDone 58 = .ok (.aload_n 0, 1) := by decide +kernel
theorem dX5_ticksToDone_59 : decode cX5_ticksToDone 59 = .ok (.getfield 16, 3) := by decide +kernel
theorem dX5_ticksToDone_62 : decode cX5_ticksToDone 62 = .ok (.getfield 119, 3) := by decide +kernel
theorem dX5_ticksToDone_65 : decode cX5_ticksToDone 65 = .ok (.getfield 145, 3) := by decide +kernel
theorem dX5_ticksToDone_68 : decode cX5_ticksToDone 68 = .ok (.iload_n 1, 1) := by decide +kernel
theorem dX5_ticksToDone_69 : decode cX5_ticksToDone 69 = .ok (.iaload, 1) := by decide +kernel
theorem dX5_ticksToDone_70 : decode cX5_ticksToDone 70 = .ok (.iconst 2, 1) := by decide +kernel
theorem dX5_ticksToDone_71 : decode cX5_ticksToDone 71 = .ok (.if_icmp .ne 5, 3) := by decide +kernel
theorem dX5_ticksToDone_74 : decode cX5_ticksToDone 74 = .ok (.iload_n 3, 1) := by decide +kernel
theorem dX5_ticksToDone_75 : decode cX5_ticksToDone 75 = .ok (.ireturn, 1) := by decide +kernel
theorem dX5_ticksToDone_76 : decode cX5_ticksToDone 76 = .ok (.iinc 3 1, 3) := by decide +kernel
theorem dX5_ticksToDone_79 : decode cX5_ticksToDone 79 = .ok (.goto (-35), 3) := by decide +kernel
theorem dX5_ticksToDone_82 : decode cX5_ticksToDone 82 = .ok (.iconst (-1), 1) := by decide +kernel
theorem dX5_ticksToDone_83 : decode cX5_ticksToDone 83 = .ok (.ireturn, 1) := by decide +kernel
set_option maxRecDepth 20000 in
theorem ggX5_bestSluice_X5_leftWith : GoodIn wsX5_bestSluice wsX5_leftWith := goodIn_r _ [5, 6, 7, 8, 9, 10, 11, 12, 13, 14, 15, 16, 17, 18, 19, 20, 21, 22, 23, 24, 25, 26, 27, 28, 29, 30, 31, 32, 33, 34, 35, 36, 37, 38, 39, 40, 41, 42, 43, 44, 45, 46, 47, 48, 49, 50, 51, 52, 53, 54, 55, 56, 57, 58, 59, 60, 61, 62, 63, 64, 65, 66, 67, 68, 69, 70, 71, 72, 73, 74, 75, 76, 77, 78, 79, 80, 81, 82, 83, 84, 85, 86, 87, 88, 89, 90, 91, 92, 93, 94, 95, 96, 97, 98, 99, 100, 101, 102, 103, 104, 105, 106, 107, 108, 109, 110, 111, 112, 113, 114, 115, 116, 117, 118, 119, 120, 121, 122, 123, 124, 125, 126, 127, 128, 129, 130, 131, 132, 133, 134, 135, 136, 137, 138, 139, 140, 141, 142, 143, 144, 145, 146, 147, 148, 149, 150, 151, 152, 153, 154, 155, 156, 157, 158, 159, 160, 161, 162, 163, 164, 165, 166, 167, 4, 168, 169, 170, 171, 172, 173, 174, 175, 176, 177, 178, 179, 180, 181, 182, 183, 184, 185, 186, 187, 188, 189, 190, 191, 192, 193, 194, 195, 196, 197, 198, 199, 200, 201, 202, 203, 204, 205, 206, 207, 208, 209, 210, 211, 212, 213, 214, 215, 216, 217, 218, 219, 220, 221, 222, 223, 224, 225] (by decide +kernel) (by decide +kernel)
set_option maxRecDepth 20000 in
theorem gX5_bestSluice_X5_leftWith : GoodIn wsX5_bestSluice (wsV RX5 317 RX5 yX5_leftWith wsX5_leftWith) := goodIn_app (goodIn_of _ (by decide +kernel)) ggX5_bestSluice_X5_leftWith
theorem dX5_bestSluice_0 : decode cX5_bestSluice 0 = .ok (.iconst 0, 1) := by decide +kernel
theorem dX5_bestSluice_1 : decode cX5_bestSluice 1 = .ok (.istore_n 2, 1) := by decide +kernel
theorem dX5_bestSluice_2 : decode cX5_bestSluice 2 = .ok (.aload_n 0, 1) := by decide +kernel
theorem dX5_bestSluice_3 : decode cX5_bestSluice 3 = .ok (.iconst 0, 1) := by decide +kernel
theorem dX5_bestSluice_4 : decode cX5_bestSluice 4 = .ok (.iload_n 1, 1) := by decide +kernel
theorem dX5_bestSluice_5 : decode cX5_bestSluice 5 = .ok (.invokevirtual 317, 3) := by decide +kernel
theorem dX5_bestSluice_8 : decode cX5_bestSluice 8 = .ok (.dstore_n 3, 1) := by decide +kernel
theorem dX5_bestSluice_9 : decode cX5_bestSluice 9 = .ok (.iconst 1, 1) := by decide +kernel
theorem dX5_bestSluice_10 : decode cX5_bestSluice 10 = .ok (.istore 5, 2) := by decide +kernel
theorem dX5_bestSluice_12 : decode cX5_bestSluice 12 = .ok (.iload 5, 2) := by decide +kernel
theorem dX5_bestSluice_14 : decode cX5_bestSluice 14 = .ok (.iconst 4, 1) := by decide +kernel
theorem dX5_bestSluice_15 : decode cX5_bestSluice 15 = .ok (.if_icmp .gt 31, 3) := by decide +kernel
theorem dX5_bestSluice_18 : decode cX5_bestSluice 18 = .ok (.aload_n 0, 1) := by decide +kernel
theorem dX5_bestSluice_19 : decode cX5_bestSluice 19 = .ok (.iload 5, 2) := by decide +kernel
theorem dX5_bestSluice_21 : decode cX5_bestSluice 21 = .ok (.iload_n 1, 1) := by decide +kernel
theorem dX5_bestSluice_22 : decode cX5_bestSluice 22 = .ok (.invokevirtual 317, 3) := by decide +kernel
theorem dX5_bestSluice_25 : decode cX5_bestSluice 25 = .ok (.dstore 6, 2) := by decide +kernel
theorem dX5_bestSluice_27 : decode cX5_bestSluice 27 = .ok (.dload 6, 2) := by decide +kernel
theorem dX5_bestSluice_29 : decode cX5_bestSluice 29 = .ok (.dload_n 3, 1) := by decide +kernel
theorem dX5_bestSluice_30 : decode cX5_bestSluice 30 = .ok (.dcmp .g, 1) := by decide +kernel
theorem dX5_bestSluice_31 : decode cX5_bestSluice 31 = .ok (.ifCond .ge 9, 3) := by decide +kernel
theorem dX5_bestSluice_34 : decode cX5_bestSluice 34 = .ok (.iload 5, 2) := by decide +kernel
theorem dX5_bestSluice_36 : decode cX5_bestSluice 36 = .ok (.istore_n 2, 1) := by decide +kernel
theorem dX5_bestSluice_37 : decode cX5_bestSluice 37 = .ok (.dload 6, 2) := by decide +kernel
theorem dX5_bestSluice_39 : decode cX5_bestSluice 39 = .ok (.dstore_n 3, 1) := by decide +kernel
theorem dX5_bestSluice_40 : decode cX5_bestSluice 40 = .ok (.iinc 5 1, 3) := by decide +kernel
theorem dX5_bestSluice_43 : decode cX5_bestSluice 43 = .ok (.goto (-31), 3) := by decide +kernel
theorem dX5_bestSluice_46 : decode cX5_bestSluice 46 = .ok (.iload_n 2, 1) := by decide +kernel
theorem dX5_bestSluice_47 : decode cX5_bestSluice 47 = .ok (.ireturn, 1) := by decide +kernel
set_option maxRecDepth 20000 in
theorem ggX5_leftWith_X1_copyFrom : GoodIn wsX5_leftWith wsX1_copyFrom := goodIn_r _ [10, 11, 12, 13, 14, 15, 16, 17, 18, 19, 20, 21, 22, 23, 24, 25, 26, 27, 28, 29, 30, 31, 32, 33, 34, 35, 36, 37, 38, 39, 40, 41, 42, 43, 44, 45, 46, 47, 48, 49, 50, 51, 52, 53, 54, 55, 56, 57, 58, 59, 60, 61, 62, 63, 194, 195, 196, 197, 198, 199, 200, 207, 208, 209, 201, 202, 203, 204, 205, 206, 210, 211, 212, 213, 214, 215, 216, 217, 218, 219, 220, 221] (by decide +kernel) (by decide +kernel)
set_option maxRecDepth 20000 in
theorem gX5_leftWith_X1_copyFrom : GoodIn wsX5_leftWith (wsV RX5 250 RX1 yX1_copyFrom wsX1_copyFrom) := goodIn_app (goodIn_of _ (by decide +kernel)) ggX5_leftWith_X1_copyFrom
set_option maxRecDepth 20000 in
theorem ggX5_leftWith_X1_goBy : GoodIn wsX5_leftWith wsX1_goBy := goodIn_r _ [67, 12, 11, 68, 14, 69, 13, 17, 70, 71, 72, 73, 21, 74, 75, 76, 77, 25, 78, 79, 80, 81, 82, 83, 84, 85, 86, 87, 88, 24, 89, 90, 91, 92, 93, 94, 95, 96, 97, 98, 99, 100, 101, 102, 103, 104, 105, 106, 29, 107, 108, 109, 110, 111, 33, 31, 112, 32, 113, 114, 115, 116, 117, 118, 119, 120, 121, 122, 123, 124, 36, 34, 125, 126, 127, 128, 129, 35, 130, 131, 132, 133, 9, 134, 15, 16, 135, 136, 137, 138, 23, 139, 140, 141, 56, 142, 63, 61, 60, 143, 144, 145, 146, 58, 147, 148, 149, 40, 150, 52, 151, 152, 153, 154, 155, 156, 157, 158, 159, 160, 161, 51, 47, 50, 162, 163, 164, 165, 166, 167, 168, 169, 170, 171, 172, 173, 174, 175, 176, 177, 62, 178, 179, 180, 181, 182, 183, 194, 195, 196, 197, 198, 199, 200, 207, 208, 209, 201, 202, 203, 204, 205, 206, 217, 218, 219, 220, 221, 210, 211, 212, 213, 214, 215, 216] (by decide +kernel) (by decide +kernel)
set_option maxRecDepth 20000 in
theorem gX5_leftWith_X1_goBy : GoodIn wsX5_leftWith (wsV RX5 314 RX1 yX1_goBy wsX1_goBy) := goodIn_app (goodIn_of _ (by decide +kernel)) ggX5_leftWith_X1_goBy
set_option maxRecDepth 20000 in
theorem ggX5_leftWith_X0_allLeft : GoodIn wsX5_leftWith wsX0_allLeft := goodIn_r _ [187, 52, 51, 210, 211, 212, 213, 214, 215, 216] (by decide +kernel) (by decide +kernel)
set_option maxRecDepth 20000 in
theorem gX5_leftWith_X0_allLeft : GoodIn wsX5_leftWith (wsV RX5 321 RX0 yX0_allLeft wsX0_allLeft) := goodIn_app (goodIn_of _ (by decide +kernel)) ggX5_leftWith_X0_allLeft
theorem dX5_leftWith_0 : decode cX5_leftWith 0 = .ok (.aload_n 0, 1) := by decide +kernel
theorem dX5_leftWith_1 : decode cX5_leftWith 1 = .ok (.getfield 16, 3) := by decide +kernel
theorem dX5_leftWith_4 : decode cX5_leftWith 4 = .ok (.aload_n 0, 1) := by decide +kernel
theorem dX5_leftWith_5 : decode cX5_leftWith 5 = .ok (.getfield 10, 3) := by decide +kernel
theorem dX5_leftWith_8 : decode cX5_leftWith 8 = .ok (.invokevirtual 250, 3) := by decide +kernel
theorem dX5_leftWith_11 : decode cX5_leftWith 11 = .ok (.aload_n 0, 1) := by decide +kernel
theorem dX5_leftWith_12 : decode cX5_leftWith 12 = .ok (.getfield 16, 3) := by decide +kernel
theorem dX5_leftWith_15 : decode cX5_leftWith 15 = .ok (.getfield 70, 3) := by decide +kernel
theorem dX5_leftWith_18 : decode cX5_leftWith 18 = .ok (.iload_n 1, 1) := by decide +kernel
theorem dX5_leftWith_19 : decode cX5_leftWith 19 = .ok (.putfield 81, 3) := by decide +kernel
theorem dX5_leftWith_22 : decode cX5_leftWith 22 = .ok (.iconst 0, 1) := by decide +kernel
theorem dX5_leftWith_23 : decode cX5_leftWith 23 = .ok (.istore_n 3, 1) := by decide +kernel
theorem dX5_leftWith_24 : decode cX5_leftWith 24 = .ok (.iload_n 3, 1) := by decide +kernel
theorem dX5_leftWith_25 : decode cX5_leftWith 25 = .ok (.iload_n 2, 1) := by decide +kernel
theorem dX5_leftWith_26 : decode cX5_leftWith 26 = .ok (.if_icmp .ge 16, 3) := by decide +kernel
theorem dX5_leftWith_29 : decode cX5_leftWith 29 = .ok (.aload_n 0, 1) := by decide +kernel
theorem dX5_leftWith_30 : decode cX5_leftWith 30 = .ok (.getfield 16, 3) := by decide +kernel
theorem dX5_leftWith_33 : decode cX5_leftWith 33 = .ok (.invokevirtual 314, 3) := by decide +kernel
theorem dX5_leftWith_36 : decode cX5_leftWith 36 = .ok (.iinc 3 1, 3) := by decide +kernel
theorem dX5_leftWith_39 : decode cX5_leftWith 39 = .ok (.goto (-15), 3) := by decide +kernel
theorem dX5_leftWith_42 : decode cX5_leftWith 42 = .ok (.aload_n 0, 1) := by decide +kernel
theorem dX5_leftWith_43 : decode cX5_leftWith 43 = .ok (.getfield 16, 3) := by decide +kernel
theorem dX5_leftWith_46 : decode cX5_leftWith 46 = .ok (.getfield 119, 3) := by decide +kernel
theorem dX5_leftWith_49 : decode cX5_leftWith 49 = .ok (.invokevirtual 321, 3) := by decide +kernel
theorem dX5_leftWith_52 : decode cX5_leftWith 52 = .ok (.dreturn, 1) := by decide +kernel
set_option maxRecDepth 20000 in
theorem ggX5_joinedPair_X5_pairAnswer : GoodIn wsX5_joinedPair wsX5_pairAnswer := goodIn_r _ [8, 1, 2, 9, 10, 11, 20, 21, 22, 23, 24, 25, 26, 27, 28, 29, 30, 31, 32, 33, 34, 35, 36, 37] (by decide +kernel) (by decide +kernel)
set_option maxRecDepth 20000 in
theorem gX5_joinedPair_X5_pairAnswer : GoodIn wsX5_joinedPair (wsV RX5 226 RX5 yX5_pairAnswer wsX5_pairAnswer) := goodIn_app (goodIn_of _ (by decide +kernel)) ggX5_joinedPair_X5_pairAnswer
set_option maxRecDepth 20000 in
theorem ggX5_joinedPair_X5_joined : GoodIn wsX5_joinedPair wsX5_joined := goodIn_r _ [14, 15] (by decide +kernel) (by decide +kernel)
set_option maxRecDepth 20000 in
theorem gX5_joinedPair_X5_joined : GoodIn wsX5_joinedPair (va_wsS RX5 267 yX5_joined wsX5_joined) := goodIn_app (goodIn_of _ (by decide +kernel)) ggX5_joinedPair_X5_joined
set_option maxRecDepth 20000 in
theorem ggX5_joinedPair_X5_cutOf1024 : GoodIn wsX5_joinedPair wsX5_cutOf1024 := goodIn_r _ [18, 19] (by decide +kernel) (by decide +kernel)
set_option maxRecDepth 20000 in
theorem gX5_joinedPair_X5_cutOf1024 : GoodIn wsX5_joinedPair (va_wsS RX5 271 yX5_cutOf1024 wsX5_cutOf1024) := goodIn_app (goodIn_of _ (by decide +kernel)) ggX5_joinedPair_X5_cutOf1024
theorem dX5_joinedPair_0 : decode cX5_joinedPair 0 = .ok (.lload_n 1, 1) := by decide +kernel
theorem dX5_joinedPair_1 : decode cX5_joinedPair 1 = .ok (.lstore 4, 2) := by decide +kernel
theorem dX5_joinedPair_3 : decode cX5_joinedPair 3 = .ok (.iconst 0, 1) := by decide +kernel
theorem dX5_joinedPair_4 : decode cX5_joinedPair 4 = .ok (.istore 6, 2) := by decide +kernel
theorem dX5_joinedPair_6 : decode cX5_joinedPair 6 = .ok (.iload 6, 2) := by decide +kernel
theorem dX5_joinedPair_8 : decode cX5_joinedPair 8 = .ok (.iconst 2, 1) := by decide +kernel
theorem dX5_joinedPair_9 : decode cX5_joinedPair 9 = .ok (.if_icmp .gt 24, 3) := by decide +kernel
theorem dX5_joinedPair_12 : decode cX5_joinedPair 12 = .ok (.lload 4, 2) := by decide +kernel
theorem dX5_joinedPair_14 : decode cX5_joinedPair 14 = .ok (.aload_n 0, 1) := by decide +kernel
theorem dX5_joinedPair_15 : decode cX5_joinedPair 15 = .ok (.iload_n 3, 1) := by decide +kernel
theorem dX5_joinedPair_16 : decode cX5_joinedPair 16 = .ok (.iload 6, 2) := by decide +kernel
theorem dX5_joinedPair_18 : decode cX5_joinedPair 18 = .ok (.invokevirtual 226, 3) := by decide +kernel
theorem dX5_joinedPair_21 : decode cX5_joinedPair 21 = .ok (.i2l, 1) := by decide +kernel
theorem dX5_joinedPair_22 : decode cX5_joinedPair 22 = .ok (.invokestatic 267, 3) := by decide +kernel
theorem dX5_joinedPair_25 : decode cX5_joinedPair 25 = .ok (.lstore 4, 2) := by decide +kernel
theorem dX5_joinedPair_27 : decode cX5_joinedPair 27 = .ok (.iinc 6 1, 3) := by decide +kernel
theorem dX5_joinedPair_30 : decode cX5_joinedPair 30 = .ok (.goto (-24), 3) := by decide +kernel
theorem dX5_joinedPair_33 : decode cX5_joinedPair 33 = .ok (.lload 4, 2) := by decide +kernel
theorem dX5_joinedPair_35 : decode cX5_joinedPair 35 = .ok (.aload_n 0, 1) := by decide +kernel
theorem dX5_joinedPair_36 : decode cX5_joinedPair 36 = .ok (.getfield 10, 3) := by decide +kernel
theorem dX5_joinedPair_39 : decode cX5_joinedPair 39 = .ok (.getfield 102, 3) := by decide +kernel
theorem dX5_joinedPair_42 : decode cX5_joinedPair 42 = .ok (.getfield 171, 3) := by decide +kernel
theorem dX5_joinedPair_45 : decode cX5_joinedPair 45 = .ok (.iload_n 3, 1) := by decide +kernel
theorem dX5_joinedPair_46 : decode cX5_joinedPair 46 = .ok (.faload, 1) := by decide +kernel
theorem dX5_joinedPair_47 : decode cX5_joinedPair 47 = .ok (.f2d, 1) := by decide +kernel
theorem dX5_joinedPair_48 : decode cX5_joinedPair 48 = .ok (.invokestatic 271, 3) := by decide +kernel
theorem dX5_joinedPair_51 : decode cX5_joinedPair 51 = .ok (.invokestatic 267, 3) := by decide +kernel
theorem dX5_joinedPair_54 : decode cX5_joinedPair 54 = .ok (.lreturn, 1) := by decide +kernel
set_option maxRecDepth 20000 in
theorem ggX5_joinedLot_X5_lotAnswer : GoodIn wsX5_joinedLot wsX5_lotAnswer := goodIn_r _ [8, 1, 2, 9, 10, 11, 12, 13, 14, 15, 16, 17, 18, 19, 20, 21, 209, 210, 211, 212, 213, 214, 215, 216, 217, 218, 219, 220, 221, 222, 223, 224, 225, 226, 227, 228, 229, 230, 231, 232, 233] (by decide +kernel) (by decide +kernel)
set_option maxRecDepth 20000 in
theorem gX5_joinedLot_X5_lotAnswer : GoodIn wsX5_joinedLot (wsV RX5 229 RX5 yX5_lotAnswer wsX5_lotAnswer) := goodIn_app (goodIn_of _ (by decide +kernel)) ggX5_joinedLot_X5_lotAnswer
set_option maxRecDepth 20000 in
theorem ggX5_joinedLot_X5_joined : GoodIn wsX5_joinedLot wsX5_joined := goodIn_r _ [24, 25] (by decide +kernel) (by decide +kernel)
set_option maxRecDepth 20000 in
theorem gX5_joinedLot_X5_joined : GoodIn wsX5_joinedLot (va_wsS RX5 267 yX5_joined wsX5_joined) := goodIn_app (goodIn_of _ (by decide +kernel)) ggX5_joinedLot_X5_joined
set_option maxRecDepth 20000 in
theorem ggX5_joinedLot_X5_cutOf1024 : GoodIn wsX5_joinedLot wsX5_cutOf1024 := goodIn_r _ [28, 29] (by decide +kernel) (by decide +kernel)
set_option maxRecDepth 20000 in
theorem gX5_joinedLot_X5_cutOf1024 : GoodIn wsX5_joinedLot (va_wsS RX5 271 yX5_cutOf1024 wsX5_cutOf1024) := goodIn_app (goodIn_of _ (by decide +kernel)) ggX5_joinedLot_X5_cutOf1024
set_option maxRecDepth 20000 in
theorem ggX5_joinedLot_X5_ticksToDone : GoodIn wsX5_joinedLot wsX5_ticksToDone := goodIn_r _ [33, 1, 2, 13, 34, 35, 36, 37, 38, 39, 40, 41, 42, 43, 44, 45, 46, 47, 48, 49, 50, 51, 52, 53, 54, 55, 56, 57, 58, 59, 60, 61, 62, 63, 64, 65, 66, 67, 68, 69, 70, 71, 72, 73, 74, 75, 76, 77, 78, 79, 80, 81, 82, 83, 84, 18, 85, 86, 87, 21, 88, 89, 20, 90, 91, 92, 93, 94, 95, 96, 97, 98, 99, 100, 101, 102, 103, 104, 105, 106, 107, 108, 109, 110, 111, 112, 113, 114, 115, 116, 117, 118, 119, 120, 121, 122, 123, 124, 125, 126, 127, 128, 129, 130, 131, 132, 133, 134, 135, 136, 137, 138, 139, 140, 141, 142, 143, 144, 145, 146, 147, 148, 149, 150, 151, 152, 153, 154, 155, 156, 157, 158, 159, 160, 161, 162, 163, 164, 165, 166, 167, 168, 169, 170, 171, 172, 173, 174, 175, 176, 177, 178, 179, 180, 181, 182, 183, 184, 185, 186, 187, 188, 7, 189, 190, 191, 192, 193, 194, 195, 196, 197, 198, 199, 200, 201, 202, 203, 204, 205, 206, 207, 208, 209, 210, 211, 212, 213, 214, 215, 216, 217, 218, 219, 220, 221, 222, 223, 224, 225, 226, 227, 228, 234, 235, 236, 237, 238, 239, 240, 241, 242, 229, 230, 231, 232, 233] (by decide +kernel) (by decide +kernel)
set_option maxRecDepth 20000 in
theorem gX5_joinedLot_X5_ticksToDone : GoodIn wsX5_joinedLot (wsV RX5 257 RX5 yX5_ticksToDone wsX5_ticksToDone) := goodIn_app (goodIn_of _ (by decide +kernel)) ggX5_joinedLot_X5_ticksToDone
theorem dX5_joinedLot_0 : decode cX5_joinedLot 0 = .ok (.lload_n 1, 1) := by decide +kernel
theorem dX5_joinedLot_1 : decode cX5_joinedLot 1 = .ok (.lstore 4, 2) := by decide +kernel
theorem dX5_joinedLot_3 : decode cX5_joinedLot 3 = .ok (.iconst 0, 1) := by decide +kernel
theorem dX5_joinedLot_4 : decode cX5_joinedLot 4 = .ok (.istore 6, 2) := by decide +kernel
theorem dX5_joinedLot_6 : decode cX5_joinedLot 6 = .ok (.iload 6, 2) := by decide +kernel
theorem dX5_joinedLot_8 : decode cX5_joinedLot 8 = .ok (.iconst 5, 1) := by decide +kernel
theorem dX5_joinedLot_9 : decode cX5_joinedLot 9 = .ok (.if_icmp .gt 24, 3) := by decide +kernel
theorem dX5_joinedLot_12 : decode cX5_joinedLot 12 = .ok (.lload 4, 2) := by decide +kernel
theorem dX5_joinedLot_14 : decode cX5_joinedLot 14 = .ok (.aload_n 0, 1) := by decide +kernel
theorem dX5_joinedLot_15 : decode cX5_joinedLot 15 = .ok (.iload_n 3, 1) := by decide +kernel
theorem dX5_joinedLot_16 : decode cX5_joinedLot 16 = .ok (.iload 6, 2) := by decide +kernel
theorem dX5_joinedLot_18 : decode cX5_joinedLot 18 = .ok (.invokevirtual 229, 3) := by decide +kernel
theorem dX5_joinedLot_21 : decode cX5_joinedLot 21 = .ok (.i2l, 1) := by decide +kernel
theorem dX5_joinedLot_22 : decode cX5_joinedLot 22 = .ok (.invokestatic 267, 3) := by decide +kernel
theorem dX5_joinedLot_25 : decode cX5_joinedLot 25 = .ok (.lstore 4, 2) := by decide +kernel
theorem dX5_joinedLot_27 : decode cX5_joinedLot 27 = .ok (.iinc 6 1, 3) := by decide +kernel
theorem dX5_joinedLot_30 : decode cX5_joinedLot 30 = .ok (.goto (-24), 3) := by decide +kernel
theorem dX5_joinedLot_33 : decode cX5_joinedLot 33 = .ok (.lload 4, 2) := by decide +kernel
theorem dX5_joinedLot_35 : decode cX5_joinedLot 35 = .ok (.aload_n 0, 1) := by decide +kernel
theorem dX5_joinedLot_36 : decode cX5_joinedLot 36 = .ok (.getfield 10, 3) := by decide +kernel
theorem dX5_joinedLot_39 : decode cX5_joinedLot 39 = .ok (.getfield 119, 3) := by decide +kernel
theorem dX5_joinedLot_42 : decode cX5_joinedLot 42 = .ok (.getfield 232, 3) := by decide +kernel
theorem dX5_joinedLot_45 : decode cX5_joinedLot 45 = .ok (.iload_n 3, 1) := by decide +kernel
theorem dX5_joinedLot_46 : decode cX5_joinedLot 46 = .ok (.daload, 1) := by decide +kernel
theorem dX5_joinedLot_47 : decode cX5_joinedLot 47 = .ok (.invokestatic 271, 3) := by decide +kernel
theorem dX5_joinedLot_50 : decode cX5_joinedLot 50 = .ok (.invokestatic 267, 3) := by decide +kernel
theorem dX5_joinedLot_53 : decode cX5_joinedLot 53 = .ok (.lstore 4, 2) := by decide +kernel
theorem dX5_joinedLot_55 : decode cX5_joinedLot 55 = .ok (.lload 4, 2) := by decide +kernel
theorem dX5_joinedLot_57 : decode cX5_joinedLot 57 = .ok (.aload_n 0, 1) := by decide +kernel
theorem dX5_joinedLot_58 : decode cX5_joinedLot 58 = .ok (.iload_n 3, 1) := by decide +kernel
theorem dX5_joinedLot_59 : decode cX5_joinedLot 59 = .ok (.invokevirtual 257, 3) := by decide +kernel
theorem dX5_joinedLot_62 : decode cX5_joinedLot 62 = .ok (.i2l, 1) := by decide +kernel
theorem dX5_joinedLot_63 : decode cX5_joinedLot 63 = .ok (.invokestatic 267, 3) := by decide +kernel
theorem dX5_joinedLot_66 : decode cX5_joinedLot 66 = .ok (.lreturn, 1) := by decide +kernel
theorem dX5_joined_0 : decode cX5_joined 0 = .ok (.lload_n 0, 1) := by decide +kernel
theorem dX5_joined_1 : decode cX5_joined 1 = .ok (.ldc2_w 324, 3) := by decide +kernel
theorem dX5_joined_4 : decode cX5_joined 4 = .ok (.lmul, 1) := by decide +kernel
theorem dX5_joined_5 : decode cX5_joined 5 = .ok (.lload_n 2, 1) := by decide +kernel
theorem dX5_joined_6 : decode cX5_joined 6 = .ok (.ladd, 1) := by decide +kernel
theorem dX5_joined_7 : decode cX5_joined 7 = .ok (.lreturn, 1) := by decide +kernel
theorem dX5_cutOf1024_0 : decode cX5_cutOf1024 0 = .ok (.ldc2_w 326, 3) := by decide +kernel
theorem dX5_cutOf1024_3 : decode cX5_cutOf1024 3 = .ok (.dload_n 0, 1) := by decide +kernel
theorem dX5_cutOf1024_4 : decode cX5_cutOf1024 4 = .ok (.dmul, 1) := by decide +kernel
theorem dX5_cutOf1024_5 : decode cX5_cutOf1024 5 = .ok (.d2l, 1) := by decide +kernel
theorem dX5_cutOf1024_6 : decode cX5_cutOf1024 6 = .ok (.lreturn, 1) := by decide +kernel
theorem dX5_isWithin_0 : decode cX5_isWithin 0 = .ok (.iload_n 0, 1) := by decide +kernel
theorem dX5_isWithin_1 : decode cX5_isWithin 1 = .ok (.iload_n 1, 1) := by decide +kernel
theorem dX5_isWithin_2 : decode cX5_isWithin 2 = .ok (.if_icmp .lt 12, 3) := by decide +kernel
theorem dX5_isWithin_5 : decode cX5_isWithin 5 = .ok (.iload_n 0, 1) := by decide +kernel
theorem dX5_isWithin_6 : decode cX5_isWithin 6 = .ok (.iload_n 2, 1) := by decide +kernel
theorem dX5_isWithin_7 : decode cX5_isWithin 7 = .ok (.if_icmp .gt 7, 3) := by decide +kernel
theorem dX5_isWithin_10 : decode cX5_isWithin 10 = .ok (.iconst 1, 1) := by decide +kernel
theorem dX5_isWithin_11 : decode cX5_isWithin 11 = .ok (.goto 4, 3) := by decide +kernel
theorem dX5_isWithin_14 : decode cX5_isWithin 14 = .ok (.iconst 0, 1) := by decide +kernel
theorem dX5_isWithin_15 : decode cX5_isWithin 15 = .ok (.ireturn, 1) := by decide +kernel
theorem dX5_roundedUp_0 : decode cX5_roundedUp 0 = .ok (.dload_n 0, 1) := by decide +kernel
theorem dX5_roundedUp_1 : decode cX5_roundedUp 1 = .ok (.d2i, 1) := by decide +kernel
theorem dX5_roundedUp_2 : decode cX5_roundedUp 2 = .ok (.istore_n 2, 1) := by decide +kernel
theorem dX5_roundedUp_3 : decode cX5_roundedUp 3 = .ok (.iload_n 2, 1) := by decide +kernel
theorem dX5_roundedUp_4 : decode cX5_roundedUp 4 = .ok (.i2d, 1) := by decide +kernel
theorem dX5_roundedUp_5 : decode cX5_roundedUp 5 = .ok (.dload_n 0, 1) := by decide +kernel
theorem dX5_roundedUp_6 : decode cX5_roundedUp 6 = .ok (.dcmp .g, 1) := by decide +kernel
theorem dX5_roundedUp_7 : decode cX5_roundedUp 7 = .ok (.ifCond .ge 9, 3) := by decide +kernel
theorem dX5_roundedUp_10 : decode cX5_roundedUp 10 = .ok (.iload_n 2, 1) := by decide +kernel
theorem dX5_roundedUp_11 : decode cX5_roundedUp 11 = .ok (.iconst 1, 1) := by decide +kernel
theorem dX5_roundedUp_12 : decode cX5_roundedUp 12 = .ok (.iadd, 1) := by decide +kernel
theorem dX5_roundedUp_13 : decode cX5_roundedUp 13 = .ok (.goto 4, 3) := by decide +kernel
theorem dX5_roundedUp_16 : decode cX5_roundedUp 16 = .ok (.iload_n 2, 1) := by decide +kernel
theorem dX5_roundedUp_17 : decode cX5_roundedUp 17 = .ok (.ireturn, 1) := by decide +kernel
theorem dX5_paceOf_0 : decode cX5_paceOf 0 = .ok (.iload_n 0, 1) := by decide +kernel
theorem dX5_paceOf_1 : decode cX5_paceOf 1 = .ok (.ifCond .ne 7, 3) := by decide +kernel
theorem dX5_paceOf_4 : decode cX5_paceOf 4 = .ok (.ldc2_w 328, 3) := by decide +kernel
theorem dX5_paceOf_7 : decode cX5_paceOf 7 = .ok (.dreturn, 1) := by decide +kernel
theorem dX5_paceOf_8 : decode cX5_paceOf 8 = .ok (.iload_n 0, 1) := by decide +kernel
theorem dX5_paceOf_9 : decode cX5_paceOf 9 = .ok (.iconst 1, 1) := by decide +kernel
theorem dX5_paceOf_10 : decode cX5_paceOf 10 = .ok (.if_icmp .ne 9, 3) := by decide +kernel
theorem dX5_paceOf_13 : decode cX5_paceOf 13 = .ok (.ldc2_w 330, 3) := by decide +kernel
theorem dX5_paceOf_16 : decode cX5_paceOf 16 = .ok (.goto 6, 3) := by decide +kernel
theorem dX5_paceOf_19 : decode cX5_paceOf 19 = .ok (.ldc2_w 332, 3) := by decide +kernel
theorem dX5_paceOf_22 : decode cX5_paceOf 22 = .ok (.dreturn, 1) := by decide +kernel
theorem dX5_hardnessOf_0 : decode cX5_hardnessOf 0 = .ok (.iload_n 0, 1) := by decide +kernel
theorem dX5_hardnessOf_1 : decode cX5_hardnessOf 1 = .ok (.iconst 1, 1) := by decide +kernel
theorem dX5_hardnessOf_2 : decode cX5_hardnessOf 2 = .ok (.if_icmp .ne 7, 3) := by decide +kernel
theorem dX5_hardnessOf_5 : decode cX5_hardnessOf 5 = .ok (.fconst 2, 1) := by decide +kernel
theorem dX5_hardnessOf_6 : decode cX5_hardnessOf 6 = .ok (.goto 4, 3) := by decide +kernel
theorem dX5_hardnessOf_9 : decode cX5_hardnessOf 9 = .ok (.fconst 1, 1) := by decide +kernel
theorem dX5_hardnessOf_10 : decode cX5_hardnessOf 10 = .ok (.freturn, 1) := by decide +kernel
theorem dX5_priceOf_0 : decode cX5_priceOf 0 = .ok (.iload_n 0, 1) := by decide +kernel
theorem dX5_priceOf_1 : decode cX5_priceOf 1 = .ok (.ifCond .ne 5, 3) := by decide +kernel
theorem dX5_priceOf_4 : decode cX5_priceOf 4 = .ok (.iconst 3, 1) := by decide +kernel
theorem dX5_priceOf_5 : decode cX5_priceOf 5 = .ok (.ireturn, 1) := by decide +kernel
theorem dX5_priceOf_6 : decode cX5_priceOf 6 = .ok (.iload_n 0, 1) := by decide +kernel
theorem dX5_priceOf_7 : decode cX5_priceOf 7 = .ok (.iconst 1, 1) := by decide +kernel
theorem dX5_priceOf_8 : decode cX5_priceOf 8 = .ok (.if_icmp .ne 7, 3) := by decide +kernel
theorem dX5_priceOf_11 : decode cX5_priceOf 11 = .ok (.iconst 2, 1) := by decide +kernel
theorem dX5_priceOf_12 : decode cX5_priceOf 12 = .ok (.goto 4, 3) := by decide +kernel
theorem dX5_priceOf_15 : decode cX5_priceOf 15 = .ok (.iconst 1, 1) := by decide +kernel
theorem dX5_priceOf_16 : decode cX5_priceOf 16 = .ok (.ireturn, 1) := by decide +kernel
theorem dX6_init_0 : decode cX6_init 0 = .ok (.aload_n 0, 1) := by decide +kernel
theorem dX6_init_1 : decode cX6_init 1 = .ok (.aload_n 1, 1) := by decide +kernel
theorem dX6_init_2 : decode cX6_init 2 = .ok (.putfield 3, 3) := by decide +kernel
theorem dX6_init_5 : decode cX6_init 5 = .ok (.aload_n 0, 1) := by decide +kernel
theorem dX6_init_6 : decode cX6_init 6 = .ok (.invokespecial 9, 3) := by decide +kernel
theorem dX6_init_9 : decode cX6_init 9 = .ok (.aload_n 0, 1) := by decide +kernel
theorem dX6_init_10 : decode cX6_init 10 = .ok (.bipush 47, 2) := by decide +kernel
theorem dX6_init_12 : decode cX6_init 12 = .ok (.putfield 15, 3) := by decide +kernel
theorem dX6_init_15 : decode cX6_init 15 = .ok (.aload_n 0, 1) := by decide +kernel
theorem dX6_init_16 : decode cX6_init 16 = .ok (.iconst 3, 1) := by decide +kernel
theorem dX6_init_17 : decode cX6_init 17 = .ok (.newarray .float, 2) := by decide +kernel
theorem dX6_init_19 : decode cX6_init 19 = .ok (.putfield 19, 3) := by decide +kernel
theorem dX6_init_22 : decode cX6_init 22 = .ok (.aload_n 0, 1) := by decide +kernel
theorem dX6_init_23 : decode cX6_init 23 = .ok (.iconst 3, 1) := by decide +kernel
theorem dX6_init_24 : decode cX6_init 24 = .ok (.newarray .int, 2) := by decide +kernel
theorem dX6_init_26 : decode cX6_init 26 = .ok (.putfield 23, 3) := by decide +kernel
theorem dX6_init_29 : decode cX6_init 29 = .ok (.aload_n 0, 1) := by decide +kernel
theorem dX6_init_30 : decode cX6_init 30 = .ok (.iconst 3, 1) := by decide +kernel
theorem dX6_init_31 : decode cX6_init 31 = .ok (.newarray .int, 2) := by decide +kernel
theorem dX6_init_33 : decode cX6_init 33 = .ok (.putfield 27, 3) := by decide +kernel
theorem dX6_init_36 : decode cX6_init 36 = .ok (.aload_n 0, 1) := by decide +kernel
theorem dX6_init_37 : decode cX6_init 37 = .ok (.iconst 3, 1) := by decide +kernel
theorem dX6_init_38 : decode cX6_init 38 = .ok (.newarray .int, 2) := by decide +kernel
theorem dX6_init_40 : decode cX6_init 40 = .ok (.putfield 30, 3) := by decide +kernel
theorem dX6_init_43 : decode cX6_init 43 = .ok (.aload_n 0, 1) := by decide +kernel
theorem dX6_init_44 : decode cX6_init 44 = .ok (.bipush 10, 2) := by decide +kernel
theorem dX6_init_46 : decode cX6_init 46 = .ok (.newarray .double, 2) := by decide +kernel
theorem dX6_init_48 : decode cX6_init 48 = .ok (.putfield 33, 3) := by decide +kernel
theorem dX6_init_51 : decode cX6_init 51 = .ok (.aload_n 0, 1) := by decide +kernel
theorem dX6_init_52 : decode cX6_init 52 = .ok (.bipush 10, 2) := by decide +kernel
theorem dX6_init_54 : decode cX6_init 54 = .ok (.newarray .boolean, 2) := by decide +kernel
theorem dX6_init_56 : decode cX6_init 56 = .ok (.putfield 37, 3) := by decide +kernel
theorem dX6_init_59 : decode cX6_init 59 = .ok (.return_, 1) := by decide +kernel
set_option maxRecDepth 20000 in
theorem ggX6_copy_X6_init : GoodIn wsX6_copy wsX6_init := goodIn_r _ [27, 4, 28, 29, 30, 14, 31, 16, 32, 21, 22, 33, 34, 23, 35, 24, 36, 37, 38, 39, 40, 41, 42, 43, 44, 45, 46, 47, 48, 49, 50, 51, 52, 53, 54, 55] (by decide +kernel) (by decide +kernel)
set_option maxRecDepth 20000 in
theorem gX6_copy_X6_init : GoodIn wsX6_copy (wsX6_init) := ggX6_copy_X6_init
theorem dX6_copy_0 : decode cX6_copy 0 = .ok (.new 4, 3) := by decide +kernel
theorem dX6_copy_3 : decode cX6_copy 3 = .ok (.dup, 1) := by decide +kernel
theorem dX6_copy_4 : decode cX6_copy 4 = .ok (.aload_n 0, 1) := by decide +kernel
theorem dX6_copy_5 : decode cX6_copy 5 = .ok (.getfield 3, 3) := by decide +kernel
theorem dX6_copy_8 : decode cX6_copy 8 = .ok (.invokespecial 41, 3) := by decide +kernel
theorem dX6_copy_11 : decode cX6_copy 11 = .ok (.astore_n 1, 1) := by decide +kernel
theorem dX6_copy_12 : decode cX6_copy 12 = .ok (.aload_n 1, 1) := by decide +kernel
theorem dX6_copy_13 : decode cX6_copy 13 = .ok (.aload_n 0, 1) := by decide +kernel
theorem dX6_copy_14 : decode cX6_copy 14 = .ok (.getfield 44, 3) := by decide +kernel
theorem dX6_copy_17 : decode cX6_copy 17 = .ok (.putfield 44, 3) := by decide +kernel
theorem dX6_copy_20 : decode cX6_copy 20 = .ok (.aload_n 1, 1) := by decide +kernel
theorem dX6_copy_21 : decode cX6_copy 21 = .ok (.aload_n 0, 1) := by decide +kernel
theorem dX6_copy_22 : decode cX6_copy 22 = .ok (.getfield 47, 3) := by decide +kernel
theorem dX6_copy_25 : decode cX6_copy 25 = .ok (.putfield 47, 3) := by decide +kernel
theorem dX6_copy_28 : decode cX6_copy 28 = .ok (.aload_n 1, 1) := by decide +kernel
theorem dX6_copy_29 : decode cX6_copy 29 = .ok (.aload_n 0, 1) := by decide +kernel
theorem dX6_copy_30 : decode cX6_copy 30 = .ok (.getfield 50, 3) := by decide +kernel
theorem dX6_copy_33 : decode cX6_copy 33 = .ok (.putfield 50, 3) := by decide +kernel
theorem dX6_copy_36 : decode cX6_copy 36 = .ok (.aload_n 1, 1) := by decide +kernel
theorem dX6_copy_37 : decode cX6_copy 37 = .ok (.aload_n 0, 1) := by decide +kernel
theorem dX6_copy_38 : decode cX6_copy 38 = .ok (.getfield 54, 3) := by decide +kernel
theorem dX6_copy_41 : decode cX6_copy 41 = .ok (.putfield 54, 3) := by decide +kernel
theorem dX6_copy_44 : decode cX6_copy 44 = .ok (.aload_n 1, 1) := by decide +kernel
theorem dX6_copy_45 : decode cX6_copy 45 = .ok (.aload_n 0, 1) := by decide +kernel
theorem dX6_copy_46 : decode cX6_copy 46 = .ok (.getfield 57, 3) := by decide +kernel
theorem dX6_copy_49 : decode cX6_copy 49 = .ok (.putfield 57, 3) := by decide +kernel
theorem dX6_copy_52 : decode cX6_copy 52 = .ok (.aload_n 1, 1) := by decide +kernel
theorem dX6_copy_53 : decode cX6_copy 53 = .ok (.aload_n 0, 1) := by decide +kernel
theorem dX6_copy_54 : decode cX6_copy 54 = .ok (.getfield 61, 3) := by decide +kernel
theorem dX6_copy_57 : decode cX6_copy 57 = .ok (.putfield 61, 3) := by decide +kernel
theorem dX6_copy_60 : decode cX6_copy 60 = .ok (.aload_n 1, 1) := by decide +kernel
theorem dX6_copy_61 : decode cX6_copy 61 = .ok (.aload_n 0, 1) := by decide +kernel
theorem dX6_copy_62 : decode cX6_copy 62 = .ok (.getfield 64, 3) := by decide +kernel
theorem dX6_copy_65 : decode cX6_copy 65 = .ok (.putfield 64, 3) := by decide +kernel
theorem dX6_copy_68 : decode cX6_copy 68 = .ok (.aload_n 1, 1) := by decide +kernel
theorem dX6_copy_69 : decode cX6_copy 69 = .ok (.aload_n 0, 1) := by decide +kernel
theorem dX6_copy_70 : decode cX6_copy 70 = .ok (.getfield 67, 3) := by decide +kernel
theorem dX6_copy_73 : decode cX6_copy 73 = .ok (.putfield 67, 3) := by decide +kernel
theorem dX6_copy_76 : decode cX6_copy 76 = .ok (.aload_n 1, 1) := by decide +kernel
theorem dX6_copy_77 : decode cX6_copy 77 = .ok (.aload_n 0, 1) := by decide +kernel
theorem dX6_copy_78 : decode cX6_copy 78 = .ok (.getfield 71, 3) := by decide +kernel
theorem dX6_copy_81 : decode cX6_copy 81 = .ok (.putfield 71, 3) := by decide +kernel
theorem dX6_copy_84 : decode cX6_copy 84 = .ok (.aload_n 1, 1) := by decide +kernel
theorem dX6_copy_85 : decode cX6_copy 85 = .ok (.aload_n 0, 1) := by decide +kernel
theorem dX6_copy_86 : decode cX6_copy 86 = .ok (.getfield 15, 3) := by decide +kernel
theorem dX6_copy_89 : decode cX6_copy 89 = .ok (.putfield 15, 3) := by decide +kernel
theorem dX6_copy_92 : decode cX6_copy 92 = .ok (.aload_n 1, 1) := by decide +kernel
theorem dX6_copy_93 : decode cX6_copy 93 = .ok (.aload_n 0, 1) := by decide +kernel
theorem dX6_copy_94 : decode cX6_copy 94 = .ok (.getfield 74, 3) := by decide +kernel
theorem dX6_copy_97 : decode cX6_copy 97 = .ok (.putfield 74, 3) := by decide +kernel
theorem dX6_copy_100 : decode cX6_copy 100 = .ok (.aload_n 0, 1) := by decide +kernel
theorem dX6_copy_101 : decode cX6_copy 101 = .ok (.getfield 19, 3) := by decide +kernel
theorem dX6_copy_104 : decode cX6_copy 104 = .ok (.iconst 0, 1) := by decide +kernel
theorem dX6_copy_105 : decode cX6_copy 105 = .ok (.aload_n 1, 1) := by decide +kernel
theorem dX6_copy_106 : decode cX6_copy 106 = .ok (.getfield 19, 3) := by decide +kernel
theorem dX6_copy_109 : decode cX6_copy 109 = .ok (.iconst 0, 1) := by decide +kernel
theorem dX6_copy_110 : decode cX6_copy 110 = .ok (.iconst 3, 1) := by decide +kernel
theorem dX6_copy_111 : decode cX6_copy 111 = .ok (.invokestatic 77, 3) := by decide +kernel
theorem dX6_copy_114 : decode cX6_copy 114 = .ok (.aload_n 0, 1) := by decide +kernel
theorem dX6_copy_115 : decode cX6_copy 115 = .ok (.getfield 23, 3) := by decide +kernel
theorem dX6_copy_118 : decode cX6_copy 118 = .ok (.iconst 0, 1) := by decide +kernel
theorem dX6_copy_119 : decode cX6_copy 119 = .ok (.aload_n 1, 1) := by decide +kernel
theorem dX6_copy_120 : decode cX6_copy 120 = .ok (.getfield 23, 3) := by decide +kernel
theorem dX6_copy_123 : decode cX6_copy 123 = .ok (.iconst 0, 1) := by decide +kernel
theorem dX6_copy_124 : decode cX6_copy 124 = .ok (.iconst 3, 1) := by decide +kernel
theorem dX6_copy_125 : decode cX6_copy 125 = .ok (.invokestatic 77, 3) := by decide +kernel
theorem dX6_copy_128 : decode cX6_copy 128 = .ok (.aload_n 0, 1) := by decide +kernel
theorem dX6_copy_129 : decode cX6_copy 129 = .ok (.getfield 27, 3) := by decide +kernel
theorem dX6_copy_132 : decode cX6_copy 132 = .ok (.iconst 0, 1) := by decide +kernel
theorem dX6_copy_133 : decode cX6_copy 133 = .ok (.aload_n 1, 1) := by decide +kernel
theorem dX6_copy_134 : decode cX6_copy 134 = .ok (.getfield 27, 3) := by decide +kernel
theorem dX6_copy_137 : decode cX6_copy 137 = .ok (.iconst 0, 1) := by decide +kernel
theorem dX6_copy_138 : decode cX6_copy 138 = .ok (.iconst 3, 1) := by decide +kernel
theorem dX6_copy_139 : decode cX6_copy 139 = .ok (.invokestatic 77, 3) := by decide +kernel
theorem dX6_copy_142 : decode cX6_copy 142 = .ok (.aload_n 0, 1) := by decide +kernel
theorem dX6_copy_143 : decode cX6_copy 143 = .ok (.getfield 33, 3) := by decide +kernel
theorem dX6_copy_146 : decode cX6_copy 146 = .ok (.iconst 0, 1) := by decide +kernel
theorem dX6_copy_147 : decode cX6_copy 147 = .ok (.aload_n 1, 1) := by decide +kernel
theorem dX6_copy_148 : decode cX6_copy 148 = .ok (.getfield 33, 3) := by decide +kernel
theorem dX6_copy_151 : decode cX6_copy 151 = .ok (.iconst 0, 1) := by decide +kernel
theorem dX6_copy_152 : decode cX6_copy 152 = .ok (.bipush 10, 2) := by decide +kernel
theorem dX6_copy_154 : decode cX6_copy 154 = .ok (.invokestatic 77, 3) := by decide +kernel
theorem dX6_copy_157 : decode cX6_copy 157 = .ok (.aload_n 0, 1) := by decide +kernel
theorem dX6_copy_158 : decode cX6_copy 158 = .ok (.getfield 37, 3) := by decide +kernel
theorem dX6_copy_161 : decode cX6_copy 161 = .ok (.iconst 0, 1) := by decide +kernel
theorem dX6_copy_162 : decode cX6_copy 162 = .ok (.aload_n 1, 1) := by decide +kernel
theorem dX6_copy_163 : decode cX6_copy 163 = .ok (.getfield 37, 3) := by decide +kernel
theorem dX6_copy_166 : decode cX6_copy 166 = .ok (.iconst 0, 1) := by decide +kernel
theorem dX6_copy_167 : decode cX6_copy 167 = .ok (.bipush 10, 2) := by decide +kernel
theorem dX6_copy_169 : decode cX6_copy 169 = .ok (.invokestatic 77, 3) := by decide +kernel
theorem dX6_copy_172 : decode cX6_copy 172 = .ok (.aload_n 1, 1) := by decide +kernel
theorem dX6_copy_173 : decode cX6_copy 173 = .ok (.areturn, 1) := by decide +kernel
theorem dX6_age_0 : decode cX6_age 0 = .ok (.aload_n 0, 1) := by decide +kernel
theorem dX6_age_1 : decode cX6_age 1 = .ok (.getfield 47, 3) := by decide +kernel
theorem dX6_age_4 : decode cX6_age 4 = .ok (.iload_n 1, 1) := by decide +kernel
theorem dX6_age_5 : decode cX6_age 5 = .ok (.bipush 48, 2) := by decide +kernel
theorem dX6_age_7 : decode cX6_age 7 = .ok (.idiv, 1) := by decide +kernel
theorem dX6_age_8 : decode cX6_age 8 = .ok (.iadd, 1) := by decide +kernel
theorem dX6_age_9 : decode cX6_age 9 = .ok (.bipush 30, 2) := by decide +kernel
theorem dX6_age_11 : decode cX6_age 11 = .ok (.irem, 1) := by decide +kernel
theorem dX6_age_12 : decode cX6_age 12 = .ok (.ireturn, 1) := by decide +kernel
set_option maxRecDepth 20000 in
theorem ggX6_spring_X6_age : GoodIn wsX6_spring wsX6_age := goodIn_r _ [12, 13, 14, 15, 16, 17, 18, 19, 20, 21, 22, 23, 24, 25, 26, 27, 28, 29, 30, 31, 32, 33] (by decide +kernel) (by decide +kernel)
set_option maxRecDepth 20000 in
theorem gX6_spring_X6_age : GoodIn wsX6_spring (wsV RX6 83 RX6 yX6_age wsX6_age) := goodIn_app (goodIn_of _ (by decide +kernel)) ggX6_spring_X6_age
theorem dX6_spring_0 : decode cX6_spring 0 = .ok (.aload_n 0, 1) := by decide +kernel
theorem dX6_spring_1 : decode cX6_spring 1 = .ok (.iload_n 1, 1) := by decide +kernel
theorem dX6_spring_2 : decode cX6_spring 2 = .ok (.invokevirtual 83, 3) := by decide +kernel
theorem dX6_spring_5 : decode cX6_spring 5 = .ok (.istore_n 2, 1) := by decide +kernel
theorem dX6_spring_6 : decode cX6_spring 6 = .ok (.iload_n 2, 1) := by decide +kernel
theorem dX6_spring_7 : decode cX6_spring 7 = .ok (.bipush 30, 2) := by decide +kernel
theorem dX6_spring_9 : decode cX6_spring 9 = .ok (.iload_n 2, 1) := by decide +kernel
theorem dX6_spring_10 : decode cX6_spring 10 = .ok (.isub, 1) := by decide +kernel
theorem dX6_spring_11 : decode cX6_spring 11 = .ok (.invokestatic 87, 3) := by decide +kernel
theorem dX6_spring_14 : decode cX6_spring 14 = .ok (.iload_n 2, 1) := by decide +kernel
theorem dX6_spring_15 : decode cX6_spring 15 = .ok (.bipush 15, 2) := by decide +kernel
theorem dX6_spring_17 : decode cX6_spring 17 = .ok (.isub, 1) := by decide +kernel
theorem dX6_spring_18 : decode cX6_spring 18 = .ok (.invokestatic 93, 3) := by decide +kernel
theorem dX6_spring_21 : decode cX6_spring 21 = .ok (.invokestatic 87, 3) := by decide +kernel
theorem dX6_spring_24 : decode cX6_spring 24 = .ok (.ireturn, 1) := by decide +kernel
set_option maxRecDepth 20000 in
theorem ggX6_range_X6_spring : GoodIn wsX6_range wsX6_spring := goodIn_r _ [7, 8, 9, 10, 11, 12, 13, 14, 15, 16, 17, 6, 18, 19, 20, 21, 22, 23, 24, 25, 26, 27, 28, 29, 30, 31, 32, 33, 34, 35, 36, 37, 38, 39] (by decide +kernel) (by decide +kernel)
set_option maxRecDepth 20000 in
theorem gX6_range_X6_spring : GoodIn wsX6_range (wsV RX6 100 RX6 yX6_spring wsX6_spring) := goodIn_app (goodIn_of _ (by decide +kernel)) ggX6_range_X6_spring
theorem dX6_range_0 : decode cX6_range 0 = .ok (.ldc2_w 96, 3) := by decide +kernel
theorem dX6_range_3 : decode cX6_range 3 = .ok (.ldc2_w 98, 3) := by decide +kernel
theorem dX6_range_6 : decode cX6_range 6 = .ok (.aload_n 0, 1) := by decide +kernel
theorem dX6_range_7 : decode cX6_range 7 = .ok (.iload_n 1, 1) := by decide +kernel
theorem dX6_range_8 : decode cX6_range 8 = .ok (.invokevirtual 100, 3) := by decide +kernel
theorem dX6_range_11 : decode cX6_range 11 = .ok (.i2d, 1) := by decide +kernel
theorem dX6_range_12 : decode cX6_range 12 = .ok (.dmul, 1) := by decide +kernel
theorem dX6_range_13 : decode cX6_range 13 = .ok (.dsub, 1) := by decide +kernel
theorem dX6_range_14 : decode cX6_range 14 = .ok (.dreturn, 1) := by decide +kernel
set_option maxRecDepth 20000 in
theorem ggX6_sea_X6_range : GoodIn wsX6_sea wsX6_range := goodIn_r _ [10, 11, 12, 13, 14, 15, 9, 16, 17, 18, 19, 20, 21, 22, 23, 24, 25, 26, 27, 28, 29, 30, 31, 32, 33, 34, 35, 36, 37, 38, 39, 40, 41, 42, 43, 44, 45, 46, 47, 48] (by decide +kernel) (by decide +kernel)
set_option maxRecDepth 20000 in
theorem gX6_sea_X6_range : GoodIn wsX6_sea (wsV RX6 109 RX6 yX6_range wsX6_range) := goodIn_app (goodIn_of _ (by decide +kernel)) ggX6_sea_X6_range
theorem dX6_sea_0 : decode cX6_sea 0 = .ok (.iload_n 1, 1) := by decide +kernel
theorem dX6_sea_1 : decode cX6_sea 1 = .ok (.i2d, 1) := by decide +kernel
theorem dX6_sea_2 : decode cX6_sea 2 = .ok (.ldc2_w 103, 3) := by decide +kernel
theorem dX6_sea_5 : decode cX6_sea 5 = .ok (.drem, 1) := by decide +kernel
theorem dX6_sea_6 : decode cX6_sea 6 = .ok (.dstore_n 2, 1) := by decide +kernel
theorem dX6_sea_7 : decode cX6_sea 7 = .ok (.dload_n 2, 1) := by decide +kernel
theorem dX6_sea_8 : decode cX6_sea 8 = .ok (.ldc2_w 105, 3) := by decide +kernel
theorem dX6_sea_11 : decode cX6_sea 11 = .ok (.dcmp .g, 1) := by decide +kernel
theorem dX6_sea_12 : decode cX6_sea 12 = .ok (.ifCond .ge 11, 3) := by decide +kernel
theorem dX6_sea_15 : decode cX6_sea 15 = .ok (.dload_n 2, 1) := by decide +kernel
theorem dX6_sea_16 : decode cX6_sea 16 = .ok (.ldc2_w 105, 3) := by decide +kernel
theorem dX6_sea_19 : decode cX6_sea 19 = .ok (.ddiv, 1) := by decide +kernel
theorem dX6_sea_20 : decode cX6_sea 20 = .ok (.goto 12, 3) := by decide +kernel
theorem dX6_sea_23 : decode cX6_sea 23 = .ok (.ldc2_w 103, 3) := by decide +kernel
theorem dX6_sea_26 : decode cX6_sea 26 = .ok (.dload_n 2, 1) := by decide +kernel
theorem dX6_sea_27 : decode cX6_sea 27 = .ok (.dsub, 1) := by decide +kernel
theorem dX6_sea_28 : decode cX6_sea 28 = .ok (.ldc2_w 107, 3) := by decide +kernel
theorem dX6_sea_31 : decode cX6_sea 31 = .ok (.ddiv, 1) := by decide +kernel
theorem dX6_sea_32 : decode cX6_sea 32 = .ok (.dstore 4, 2) := by decide +kernel
theorem dX6_sea_34 : decode cX6_sea 34 = .ok (.aload_n 0, 1) := by decide +kernel
theorem dX6_sea_35 : decode cX6_sea 35 = .ok (.iload_n 1, 1) := by decide +kernel
theorem dX6_sea_36 : decode cX6_sea 36 = .ok (.invokevirtual 109, 3) := by decide +kernel
theorem dX6_sea_39 : decode cX6_sea 39 = .ok (.dstore 6, 2) := by decide +kernel
theorem dX6_sea_41 : decode cX6_sea 41 = .ok (.aload_n 0, 1) := by decide +kernel
theorem dX6_sea_42 : decode cX6_sea 42 = .ok (.getfield 50, 3) := by decide +kernel
theorem dX6_sea_45 : decode cX6_sea 45 = .ok (.dload 6, 2) := by decide +kernel
theorem dX6_sea_47 : decode cX6_sea 47 = .ok (.dload 4, 2) := by decide +kernel
theorem dX6_sea_49 : decode cX6_sea 49 = .ok (.dmul, 1) := by decide +kernel
theorem dX6_sea_50 : decode cX6_sea 50 = .ok (.dadd, 1) := by decide +kernel
theorem dX6_sea_51 : decode cX6_sea 51 = .ok (.dload 6, 2) := by decide +kernel
theorem dX6_sea_53 : decode cX6_sea 53 = .ok (.ldc2_w 113, 3) := by decide +kernel
theorem dX6_sea_56 : decode cX6_sea 56 = .ok (.dmul, 1) := by decide +kernel
theorem dX6_sea_57 : decode cX6_sea 57 = .ok (.dsub, 1) := by decide +kernel
theorem dX6_sea_58 : decode cX6_sea 58 = .ok (.dreturn, 1) := by decide +kernel
theorem dX6_area_0 : decode cX6_area 0 = .ok (.ldc2_w 115, 3) := by decide +kernel
theorem dX6_area_3 : decode cX6_area 3 = .ok (.aload_n 0, 1) := by decide +kernel
theorem dX6_area_4 : decode cX6_area 4 = .ok (.getfield 57, 3) := by decide +kernel
theorem dX6_area_7 : decode cX6_area 7 = .ok (.f2d, 1) := by decide +kernel
theorem dX6_area_8 : decode cX6_area 8 = .ok (.dsub, 1) := by decide +kernel
theorem dX6_area_9 : decode cX6_area 9 = .ok (.dreturn, 1) := by decide +kernel
theorem dX6_isAwake_0 : decode cX6_isAwake 0 = .ok (.aload_n 0, 1) := by decide +kernel
theorem dX6_isAwake_1 : decode cX6_isAwake 1 = .ok (.getfield 44, 3) := by decide +kernel
theorem dX6_isAwake_4 : decode cX6_isAwake 4 = .ok (.bipush 48, 2) := by decide +kernel
theorem dX6_isAwake_6 : decode cX6_isAwake 6 = .ok (.irem, 1) := by decide +kernel
theorem dX6_isAwake_7 : decode cX6_isAwake 7 = .ok (.istore_n 1, 1) := by decide +kernel
theorem dX6_isAwake_8 : decode cX6_isAwake 8 = .ok (.aload_n 0, 1) := by decide +kernel
theorem dX6_isAwake_9 : decode cX6_isAwake 9 = .ok (.getfield 71, 3) := by decide +kernel
theorem dX6_isAwake_12 : decode cX6_isAwake 12 = .ok (.aload_n 0, 1) := by decide +kernel
theorem dX6_isAwake_13 : decode cX6_isAwake 13 = .ok (.getfield 15, 3) := by decide +kernel
theorem dX6_isAwake_16 : decode cX6_isAwake 16 = .ok (.if_icmp .gt 27, 3) := by decide +kernel
theorem dX6_isAwake_19 : decode cX6_isAwake 19 = .ok (.iload_n 1, 1) := by decide +kernel
theorem dX6_isAwake_20 : decode cX6_isAwake 20 = .ok (.aload_n 0, 1) := by decide +kernel
theorem dX6_isAwake_21 : decode cX6_isAwake 21 = .ok (.getfield 71, 3) := by decide +kernel
theorem dX6_isAwake_24 : decode cX6_isAwake 24 = .ok (.if_icmp .lt 15, 3) := by decide +kernel
theorem dX6_isAwake_27 : decode cX6_isAwake 27 = .ok (.iload_n 1, 1) := by decide +kernel
theorem dX6_isAwake_28 : decode cX6_isAwake 28 = .ok (.aload_n 0, 1) := by decide +kernel
theorem dX6_isAwake_29 : decode cX6_isAwake 29 = .ok (.getfield 15, 3) := by decide +kernel
theorem dX6_isAwake_32 : decode cX6_isAwake 32 = .ok (.if_icmp .gt 7, 3) := by decide +kernel
theorem dX6_isAwake_35 : decode cX6_isAwake 35 = .ok (.iconst 1, 1) := by decide +kernel
theorem dX6_isAwake_36 : decode cX6_isAwake 36 = .ok (.goto 28, 3) := by decide +kernel
theorem dX6_isAwake_39 : decode cX6_isAwake 39 = .ok (.iconst 0, 1) := by decide +kernel
theorem dX6_isAwake_40 : decode cX6_isAwake 40 = .ok (.goto 24, 3) := by decide +kernel
theorem dX6_isAwake_43 : decode cX6_isAwake 43 = .ok (.iload_n 1, 1) := by decide +kernel
theorem dX6_isAwake_44 : decode cX6_isAwake 44 = .ok (.aload_n 0, 1) := by decide +kernel
theorem dX6_isAwake_45 : decode cX6_isAwake 45 = .ok (.getfield 71, 3) := by decide +kernel
theorem dX6_isAwake_48 : decode cX6_isAwake 48 = .ok (.if_icmp .ge 11, 3) := by decide +kernel
theorem dX6_isAwake_51 : decode cX6_isAwake 51 = .ok (.iload_n 1, 1) := by decide +kernel
theorem dX6_isAwake_52 : decode cX6_isAwake 52 = .ok (.aload_n 0, 1) := by decide +kernel
theorem dX6_isAwake_53 : decode cX6_isAwake 53 = .ok (.getfield 15, 3) := by decide +kernel
theorem dX6_isAwake_56 : decode cX6_isAwake 56 = .ok (.if_icmp .gt 7, 3) := by decide +kernel
theorem dX6_isAwake_59 : decode cX6_isAwake 59 = .ok (.iconst 1, 1) := by decide +kernel
theorem dX6_isAwake_60 : decode cX6_isAwake 60 = .ok (.goto 4, 3) := by decide +kernel
theorem dX6_isAwake_63 : decode cX6_isAwake 63 = .ok (.iconst 0, 1) := by decide +kernel
theorem dX6_isAwake_64 : decode cX6_isAwake 64 = .ok (.ireturn, 1) := by decide +kernel
set_option maxRecDepth 20000 in
theorem ggX6_tick_X6_sea : GoodIn wsX6_tick wsX6_sea := goodIn_r _ [20, 21, 22, 23, 24, 4, 25, 26, 27, 19, 28, 29, 11, 30, 31, 32, 33, 34, 35, 36, 37, 38, 39, 40, 41, 42, 43, 44, 45, 120, 121, 122, 123, 124, 125, 126, 127, 128, 129, 130, 131, 132, 133, 134, 135, 136, 137, 138, 139] (by decide +kernel) (by decide +kernel)
set_option maxRecDepth 20000 in
theorem gX6_tick_X6_sea : GoodIn wsX6_tick (wsV RX6 117 RX6 yX6_sea wsX6_sea) := goodIn_app (goodIn_of _ (by decide +kernel)) ggX6_tick_X6_sea
set_option maxRecDepth 20000 in
theorem ggX6_tick_X6_area : GoodIn wsX6_tick wsX6_area := goodIn_r _ [49, 50, 6, 120, 121, 122, 123, 124, 125, 126, 127, 128, 129, 130, 131, 132, 133, 134, 135, 136, 137, 138, 139] (by decide +kernel) (by decide +kernel)
set_option maxRecDepth 20000 in
theorem gX6_tick_X6_area : GoodIn wsX6_tick (wsV RX6 120 RX6 yX6_area wsX6_area) := goodIn_app (goodIn_of _ (by decide +kernel)) ggX6_tick_X6_area
set_option maxRecDepth 20000 in
theorem ggX6_tick_J9_min_e70c8 : GoodIn wsX6_tick wsJ9_min_e70c8 := goodIn_r _ [54, 55, 56, 57, 58, 59] (by decide +kernel) (by decide +kernel)
set_option maxRecDepth 20000 in
theorem gX6_tick_J9_min_e70c8 : GoodIn wsX6_tick (va_wsS RX6 126 yJ9_min_e70c8 wsJ9_min_e70c8) := goodIn_app (goodIn_of _ (by decide +kernel)) ggX6_tick_J9_min_e70c8
set_option maxRecDepth 20000 in
theorem ggX6_tick_J9_max_eb370 : GoodIn wsX6_tick wsJ9_max_eb370 := goodIn_r _ [62, 63, 64, 65, 66, 67] (by decide +kernel) (by decide +kernel)
set_option maxRecDepth 20000 in
theorem gX6_tick_J9_max_eb370 : GoodIn wsX6_tick (va_wsS RX6 131 yJ9_max_eb370 wsJ9_max_eb370) := goodIn_app (goodIn_of _ (by decide +kernel)) ggX6_tick_J9_max_eb370
set_option maxRecDepth 20000 in
theorem ggX6_tick_J9_max_e70c8 : GoodIn wsX6_tick wsJ9_max_e70c8 := goodIn_r _ [70, 55, 56, 57, 58, 59] (by decide +kernel) (by decide +kernel)
set_option maxRecDepth 20000 in
theorem gX6_tick_J9_max_e70c8 : GoodIn wsX6_tick (va_wsS RX6 139 yJ9_max_e70c8 wsJ9_max_e70c8) := goodIn_app (goodIn_of _ (by decide +kernel)) ggX6_tick_J9_max_e70c8
set_option maxRecDepth 20000 in
theorem ggX6_tick_X6_work : GoodIn wsX6_tick wsX6_work := goodIn_r _ [74, 75, 76, 77, 78, 13, 79, 80, 81, 19, 82, 1, 83, 84, 85, 86, 87, 88, 89, 90, 91, 29, 92, 93, 7, 94, 95, 96, 97, 98, 99, 100, 101, 102, 103, 104, 105, 106, 107, 108, 109, 110, 111, 112, 113, 114, 115, 53, 116, 63, 64, 65, 66, 67, 60, 61, 62, 51, 52, 54, 55, 56, 57, 58, 59, 120, 121, 122, 123, 124, 125, 126, 127, 128, 129, 130, 131, 132, 133, 134, 135, 136, 137, 138, 139, 140, 141, 142, 143, 144, 145, 146, 147, 148, 149] (by decide +kernel) (by decide +kernel)
set_option maxRecDepth 20000 in
theorem gX6_tick_X6_work : GoodIn wsX6_tick (wsV RX6 141 RX6 yX6_work wsX6_work) := goodIn_app (goodIn_of _ (by decide +kernel)) ggX6_tick_X6_work
set_option maxRecDepth 20000 in
theorem ggX6_tick_X6_age : GoodIn wsX6_tick wsX6_age := goodIn_r _ [44, 45, 120, 121, 122, 123, 124, 125, 126, 127, 128, 129, 130, 131, 132, 133, 134, 135, 136, 137, 138, 139] (by decide +kernel) (by decide +kernel)
set_option maxRecDepth 20000 in
theorem gX6_tick_X6_age : GoodIn wsX6_tick (wsV RX6 83 RX6 yX6_age wsX6_age) := goodIn_app (goodIn_of _ (by decide +kernel)) ggX6_tick_X6_age
set_option maxRecDepth 20000 in
theorem ggX6_tick_X7_in : GoodIn wsX6_tick wsX7_in := goodIn_r _ [119] (by decide +kernel) (by decide +kernel)
set_option maxRecDepth 20000 in
theorem gX6_tick_X7_in_n145 : GoodIn wsX6_tick (wsX7_in) := ggX6_tick_X7_in
theorem dX6_tick_0 : decode cX6_tick 0 = .ok (.aload_n 0, 1) := by decide +kernel
theorem dX6_tick_1 : decode cX6_tick 1 = .ok (.aload_n 0, 1) := by decide +kernel
theorem dX6_tick_2 : decode cX6_tick 2 = .ok (.getfield 44, 3) := by decide +kernel
theorem dX6_tick_5 : decode cX6_tick 5 = .ok (.invokevirtual 117, 3) := by decide +kernel
theorem dX6_tick_8 : decode cX6_tick 8 = .ok (.dstore_n 1, 1) := by decide +kernel
theorem dX6_tick_9 : decode cX6_tick 9 = .ok (.aload_n 0, 1) := by decide +kernel
theorem dX6_tick_10 : decode cX6_tick 10 = .ok (.getfield 61, 3) := by decide +kernel
theorem dX6_tick_13 : decode cX6_tick 13 = .ok (.ifCond .le 63, 3) := by decide +kernel
theorem dX6_tick_16 : decode cX6_tick 16 = .ok (.dload_n 1, 1) := by decide +kernel
theorem dX6_tick_17 : decode cX6_tick 17 = .ok (.aload_n 0, 1) := by decide +kernel
theorem dX6_tick_18 : decode cX6_tick 18 = .ok (.getfield 54, 3) := by decide +kernel
theorem dX6_tick_21 : decode cX6_tick 21 = .ok (.dcmp .l, 1) := by decide +kernel
theorem dX6_tick_22 : decode cX6_tick 22 = .ok (.ifCond .le 54, 3) := by decide +kernel
theorem dX6_tick_25 : decode cX6_tick 25 = .ok (.aload_n 0, 1) := by decide +kernel
theorem dX6_tick_26 : decode cX6_tick 26 = .ok (.getfield 61, 3) := by decide +kernel
theorem dX6_tick_29 : decode cX6_tick 29 = .ok (.i2d, 1) := by decide +kernel
theorem dX6_tick_30 : decode cX6_tick 30 = .ok (.dload_n 1, 1) := by decide +kernel
theorem dX6_tick_31 : decode cX6_tick 31 = .ok (.aload_n 0, 1) := by decide +kernel
theorem dX6_tick_32 : decode cX6_tick 32 = .ok (.getfield 54, 3) := by decide +kernel
theorem dX6_tick_35 : decode cX6_tick 35 = .ok (.dsub, 1) := by decide +kernel
theorem dX6_tick_36 : decode cX6_tick 36 = .ok (.dmul, 1) := by decide +kernel
theorem dX6_tick_37 : decode cX6_tick 37 = .ok (.ldc2_w 113, 3) := by decide +kernel
theorem dX6_tick_40 : decode cX6_tick 40 = .ok (.dmul, 1) := by decide +kernel
theorem dX6_tick_41 : decode cX6_tick 41 = .ok (.dstore_n 3, 1) := by decide +kernel
theorem dX6_tick_42 : decode cX6_tick 42 = .ok (.aload_n 0, 1) := by decide +kernel
theorem dX6_tick_43 : decode cX6_tick 43 = .ok (.dup, 1) := by decide +kernel
theorem dX6_tick_44 : decode cX6_tick 44 = .ok (.getfield 54, 3) := by decide +kernel
theorem dX6_tick_47 : decode cX6_tick 47 = .ok (.dload_n 3, 1) := by decide +kernel
theorem dX6_tick_48 : decode cX6_tick 48 = .ok (.aload_n 0, 1) := by decide +kernel
theorem dX6_tick_49 : decode cX6_tick 49 = .ok (.invokevirtual 120, 3) := by decide +kernel
theorem dX6_tick_52 : decode cX6_tick 52 = .ok (.ddiv, 1) := by decide +kernel
theorem dX6_tick_53 : decode cX6_tick 53 = .ok (.dadd, 1) := by decide +kernel
theorem dX6_tick_54 : decode cX6_tick 54 = .ok (.putfield 54, 3) := by decide +kernel
theorem dX6_tick_57 : decode cX6_tick 57 = .ok (.aload_n 0, 1) := by decide +kernel
theorem dX6_tick_58 : decode cX6_tick 58 = .ok (.ldc 124, 2) := by decide +kernel
theorem dX6_tick_60 : decode cX6_tick 60 = .ok (.aload_n 0, 1) := by decide +kernel
theorem dX6_tick_61 : decode cX6_tick 61 = .ok (.getfield 57, 3) := by decide +kernel
theorem dX6_tick_64 : decode cX6_tick 64 = .ok (.dload_n 3, 1) := by decide +kernel
theorem dX6_tick_65 : decode cX6_tick 65 = .ok (.d2f, 1) := by decide +kernel
theorem dX6_tick_66 : decode cX6_tick 66 = .ok (.ldc 125, 2) := by decide +kernel
theorem dX6_tick_68 : decode cX6_tick 68 = .ok (.fdiv, 1) := by decide +kernel
theorem dX6_tick_69 : decode cX6_tick 69 = .ok (.fadd, 1) := by decide +kernel
theorem dX6_tick_70 : decode cX6_tick 70 = .ok (.invokestatic 126, 3) := by decide +kernel
theorem dX6_tick_73 : decode cX6_tick 73 = .ok (.putfield 57, 3) := by decide +kernel
theorem dX6_tick_76 : decode cX6_tick 76 = .ok (.aload_n 0, 1) := by decide +kernel
theorem dX6_tick_77 : decode cX6_tick 77 = .ok (.getfield 54, 3) := by decide +kernel
theorem dX6_tick_80 : decode cX6_tick 80 = .ok (.dload_n 1, 1) := by decide +kernel
theorem dX6_tick_81 : decode cX6_tick 81 = .ok (.ldc2_w 129, 3) := by decide +kernel
theorem dX6_tick_84 : decode cX6_tick 84 = .ok (.invokestatic 131, 3) := by decide +kernel
theorem dX6_tick_87 : decode cX6_tick 87 = .ok (.dsub, 1) := by decide +kernel
theorem dX6_tick_88 : decode cX6_tick 88 = .ok (.dstore_n 3, 1) := by decide +kernel
theorem dX6_tick_89 : decode cX6_tick 89 = .ok (.aload_n 0, 1) := by decide +kernel
