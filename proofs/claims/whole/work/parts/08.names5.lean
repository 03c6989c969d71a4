theorem dX6_tick_90 : decode cX6_tick 90 = .ok (.dconst 0, 1) := by decide +kernel
theorem dX6_tick_91 : decode cX6_tick 91 = .ok (.putfield 135, 3) := by decide +kernel
theorem dX6_tick_94 : decode cX6_tick 94 = .ok (.aload_n 0, 1) := by decide +kernel
theorem dX6_tick_95 : decode cX6_tick 95 = .ok (.getfield 64, 3) := by decide +kernel
theorem dX6_tick_98 : decode cX6_tick 98 = .ok (.ifCond .le 48, 3) := by decide +kernel
theorem dX6_tick_101 : decode cX6_tick 101 = .ok (.dload_n 3, 1) := by decide +kernel
theorem dX6_tick_102 : decode cX6_tick 102 = .ok (.ldc2_w 113, 3) := by decide +kernel
theorem dX6_tick_105 : decode cX6_tick 105 = .ok (.dcmp .l, 1) := by decide +kernel
theorem dX6_tick_106 : decode cX6_tick 106 = .ok (.ifCond .lt 40, 3) := by decide +kernel
theorem dX6_tick_109 : decode cX6_tick 109 = .ok (.aload_n 0, 1) := by decide +kernel
theorem dX6_tick_110 : decode cX6_tick 110 = .ok (.getfield 64, 3) := by decide +kernel
theorem dX6_tick_113 : decode cX6_tick 113 = .ok (.i2d, 1) := by decide +kernel
theorem dX6_tick_114 : decode cX6_tick 114 = .ok (.dload_n 3, 1) := by decide +kernel
theorem dX6_tick_115 : decode cX6_tick 115 = .ok (.dmul, 1) := by decide +kernel
theorem dX6_tick_116 : decode cX6_tick 116 = .ok (.ldc2_w 98, 3) := by decide +kernel
theorem dX6_tick_119 : decode cX6_tick 119 = .ok (.dmul, 1) := by decide +kernel
theorem dX6_tick_120 : decode cX6_tick 120 = .ok (.dstore 5, 2) := by decide +kernel
theorem dX6_tick_122 : decode cX6_tick 122 = .ok (.aload_n 0, 1) := by decide +kernel
theorem dX6_tick_123 : decode cX6_tick 123 = .ok (.dup, 1) := by decide +kernel
theorem dX6_tick_124 : decode cX6_tick 124 = .ok (.getfield 54, 3) := by decide +kernel
theorem dX6_tick_127 : decode cX6_tick 127 = .ok (.dload 5, 2) := by decide +kernel
theorem dX6_tick_129 : decode cX6_tick 129 = .ok (.aload_n 0, 1) := by decide +kernel
theorem dX6_tick_130 : decode cX6_tick 130 = .ok (.invokevirtual 120, 3) := by decide +kernel
theorem dX6_tick_133 : decode cX6_tick 133 = .ok (.ddiv, 1) := by decide +kernel
theorem dX6_tick_134 : decode cX6_tick 134 = .ok (.dsub, 1) := by decide +kernel
theorem dX6_tick_135 : decode cX6_tick 135 = .ok (.putfield 54, 3) := by decide +kernel
theorem dX6_tick_138 : decode cX6_tick 138 = .ok (.aload_n 0, 1) := by decide +kernel
theorem dX6_tick_139 : decode cX6_tick 139 = .ok (.dload 5, 2) := by decide +kernel
theorem dX6_tick_141 : decode cX6_tick 141 = .ok (.dload_n 3, 1) := by decide +kernel
theorem dX6_tick_142 : decode cX6_tick 142 = .ok (.dmul, 1) := by decide +kernel
theorem dX6_tick_143 : decode cX6_tick 143 = .ok (.putfield 135, 3) := by decide +kernel
theorem dX6_tick_146 : decode cX6_tick 146 = .ok (.aload_n 0, 1) := by decide +kernel
theorem dX6_tick_147 : decode cX6_tick 147 = .ok (.getfield 67, 3) := by decide +kernel
theorem dX6_tick_150 : decode cX6_tick 150 = .ok (.ifCond .eq 41, 3) := by decide +kernel
theorem dX6_tick_153 : decode cX6_tick 153 = .ok (.aload_n 0, 1) := by decide +kernel
theorem dX6_tick_154 : decode cX6_tick 154 = .ok (.getfield 54, 3) := by decide +kernel
theorem dX6_tick_157 : decode cX6_tick 157 = .ok (.dload_n 1, 1) := by decide +kernel
theorem dX6_tick_158 : decode cX6_tick 158 = .ok (.dsub, 1) := by decide +kernel
theorem dX6_tick_159 : decode cX6_tick 159 = .ok (.dconst 1, 1) := by decide +kernel
theorem dX6_tick_160 : decode cX6_tick 160 = .ok (.dcmp .l, 1) := by decide +kernel
theorem dX6_tick_161 : decode cX6_tick 161 = .ok (.ifCond .lt 30, 3) := by decide +kernel
theorem dX6_tick_164 : decode cX6_tick 164 = .ok (.aload_n 0, 1) := by decide +kernel
theorem dX6_tick_165 : decode cX6_tick 165 = .ok (.dup, 1) := by decide +kernel
theorem dX6_tick_166 : decode cX6_tick 166 = .ok (.getfield 54, 3) := by decide +kernel
theorem dX6_tick_169 : decode cX6_tick 169 = .ok (.ldc2_w 98, 3) := by decide +kernel
theorem dX6_tick_172 : decode cX6_tick 172 = .ok (.dsub, 1) := by decide +kernel
theorem dX6_tick_173 : decode cX6_tick 173 = .ok (.putfield 54, 3) := by decide +kernel
theorem dX6_tick_176 : decode cX6_tick 176 = .ok (.aload_n 0, 1) := by decide +kernel
theorem dX6_tick_177 : decode cX6_tick 177 = .ok (.fconst 0, 1) := by decide +kernel
theorem dX6_tick_178 : decode cX6_tick 178 = .ok (.aload_n 0, 1) := by decide +kernel
theorem dX6_tick_179 : decode cX6_tick 179 = .ok (.getfield 57, 3) := by decide +kernel
theorem dX6_tick_182 : decode cX6_tick 182 = .ok (.ldc 138, 2) := by decide +kernel
theorem dX6_tick_184 : decode cX6_tick 184 = .ok (.fsub, 1) := by decide +kernel
theorem dX6_tick_185 : decode cX6_tick 185 = .ok (.invokestatic 139, 3) := by decide +kernel
theorem dX6_tick_188 : decode cX6_tick 188 = .ok (.putfield 57, 3) := by decide +kernel
theorem dX6_tick_191 : decode cX6_tick 191 = .ok (.aload_n 0, 1) := by decide +kernel
theorem dX6_tick_192 : decode cX6_tick 192 = .ok (.getfield 135, 3) := by decide +kernel
theorem dX6_tick_195 : decode cX6_tick 195 = .ok (.dstore 5, 2) := by decide +kernel
theorem dX6_tick_197 : decode cX6_tick 197 = .ok (.iconst 0, 1) := by decide +kernel
theorem dX6_tick_198 : decode cX6_tick 198 = .ok (.istore 7, 2) := by decide +kernel
theorem dX6_tick_200 : decode cX6_tick 200 = .ok (.iload 7, 2) := by decide +kernel
theorem dX6_tick_202 : decode cX6_tick 202 = .ok (.aload_n 0, 1) := by decide +kernel
theorem dX6_tick_203 : decode cX6_tick 203 = .ok (.getfield 74, 3) := by decide +kernel
theorem dX6_tick_206 : decode cX6_tick 206 = .ok (.if_icmp .ge 19, 3) := by decide +kernel
theorem dX6_tick_209 : decode cX6_tick 209 = .ok (.aload_n 0, 1) := by decide +kernel
theorem dX6_tick_210 : decode cX6_tick 210 = .ok (.iload 7, 2) := by decide +kernel
theorem dX6_tick_212 : decode cX6_tick 212 = .ok (.dload 5, 2) := by decide +kernel
theorem dX6_tick_214 : decode cX6_tick 214 = .ok (.invokevirtual 141, 3) := by decide +kernel
theorem dX6_tick_217 : decode cX6_tick 217 = .ok (.dstore 5, 2) := by decide +kernel
theorem dX6_tick_219 : decode cX6_tick 219 = .ok (.iinc 7 1, 3) := by decide +kernel
theorem dX6_tick_222 : decode cX6_tick 222 = .ok (.goto (-22), 3) := by decide +kernel
theorem dX6_tick_225 : decode cX6_tick 225 = .ok (.aload_n 0, 1) := by decide +kernel
theorem dX6_tick_226 : decode cX6_tick 226 = .ok (.getfield 44, 3) := by decide +kernel
theorem dX6_tick_229 : decode cX6_tick 229 = .ok (.bipush 48, 2) := by decide +kernel
theorem dX6_tick_231 : decode cX6_tick 231 = .ok (.irem, 1) := by decide +kernel
theorem dX6_tick_232 : decode cX6_tick 232 = .ok (.istore 7, 2) := by decide +kernel
theorem dX6_tick_234 : decode cX6_tick 234 = .ok (.aload_n 0, 1) := by decide +kernel
theorem dX6_tick_235 : decode cX6_tick 235 = .ok (.getfield 135, 3) := by decide +kernel
theorem dX6_tick_238 : decode cX6_tick 238 = .ok (.dconst 0, 1) := by decide +kernel
theorem dX6_tick_239 : decode cX6_tick 239 = .ok (.dcmp .l, 1) := by decide +kernel
theorem dX6_tick_240 : decode cX6_tick 240 = .ok (.ifCond .le 46, 3) := by decide +kernel
theorem dX6_tick_243 : decode cX6_tick 243 = .ok (.aload_n 0, 1) := by decide +kernel
theorem dX6_tick_244 : decode cX6_tick 244 = .ok (.aload_n 0, 1) := by decide +kernel
theorem dX6_tick_245 : decode cX6_tick 245 = .ok (.getfield 44, 3) := by decide +kernel
theorem dX6_tick_248 : decode cX6_tick 248 = .ok (.invokevirtual 83, 3) := by decide +kernel
theorem dX6_tick_251 : decode cX6_tick 251 = .ok (.bipush 13, 2) := by decide +kernel
theorem dX6_tick_253 : decode cX6_tick 253 = .ok (.bipush 17, 2) := by decide +kernel
theorem dX6_tick_255 : decode cX6_tick 255 = .ok (.invokestatic 145, 3) := by decide +kernel
theorem dX6_tick_258 : decode cX6_tick 258 = .ok (.ifCond .eq 28, 3) := by decide +kernel
theorem dX6_tick_261 : decode cX6_tick 261 = .ok (.iload 7, 2) := by decide +kernel
theorem dX6_tick_263 : decode cX6_tick 263 = .ok (.bipush 12, 2) := by decide +kernel
theorem dX6_tick_265 : decode cX6_tick 265 = .ok (.bipush 35, 2) := by decide +kernel
theorem dX6_tick_267 : decode cX6_tick 267 = .ok (.invokestatic 145, 3) := by decide +kernel
theorem dX6_tick_270 : decode cX6_tick 270 = .ok (.ifCond .ne 16, 3) := by decide +kernel
theorem dX6_tick_273 : decode cX6_tick 273 = .ok (.aload_n 0, 1) := by decide +kernel
theorem dX6_tick_274 : decode cX6_tick 274 = .ok (.dup, 1) := by decide +kernel
theorem dX6_tick_275 : decode cX6_tick 275 = .ok (.getfield 149, 3) := by decide +kernel
theorem dX6_tick_278 : decode cX6_tick 278 = .ok (.aload_n 0, 1) := by decide +kernel
theorem dX6_tick_279 : decode cX6_tick 279 = .ok (.getfield 64, 3) := by decide +kernel
theorem dX6_tick_282 : decode cX6_tick 282 = .ok (.iadd, 1) := by decide +kernel
theorem dX6_tick_283 : decode cX6_tick 283 = .ok (.putfield 149, 3) := by decide +kernel
theorem dX6_tick_286 : decode cX6_tick 286 = .ok (.aload_n 0, 1) := by decide +kernel
theorem dX6_tick_287 : decode cX6_tick 287 = .ok (.dup, 1) := by decide +kernel
theorem dX6_tick_288 : decode cX6_tick 288 = .ok (.getfield 44, 3) := by decide +kernel
theorem dX6_tick_291 : decode cX6_tick 291 = .ok (.iconst 1, 1) := by decide +kernel
theorem dX6_tick_292 : decode cX6_tick 292 = .ok (.iadd, 1) := by decide +kernel
theorem dX6_tick_293 : decode cX6_tick 293 = .ok (.putfield 44, 3) := by decide +kernel
theorem dX6_tick_296 : decode cX6_tick 296 = .ok (.return_, 1) := by decide +kernel
set_option maxRecDepth 20000 in
theorem ggX6_work_X6_isAwake : GoodIn wsX6_work wsX6_isAwake := goodIn_r _ [10, 11, 12, 13, 65, 66, 67, 68, 69, 70, 71, 72, 73, 74, 75, 76, 77, 78, 79, 80, 81, 82, 83, 84] (by decide +kernel) (by decide +kernel)
set_option maxRecDepth 20000 in
theorem gX6_work_X6_isAwake : GoodIn wsX6_work (wsV RX6 152 RX6 yX6_isAwake wsX6_isAwake) := goodIn_app (goodIn_of _ (by decide +kernel)) ggX6_work_X6_isAwake
set_option maxRecDepth 20000 in
theorem ggX6_work_X6_grind : GoodIn wsX6_work wsX6_grind := goodIn_r _ [17, 18, 19, 2, 20, 21, 22, 23, 24, 25, 3, 26, 27, 28, 29, 30, 31, 32, 33, 34, 35, 36, 37, 38, 39, 40, 41, 42, 43, 44, 45, 46, 47, 48, 49, 50, 51, 52, 53, 54, 55, 56, 57, 58, 59, 60, 61, 62, 63, 64, 65, 66, 67, 68, 69, 70, 71, 72, 73, 74, 75, 76, 77, 78, 79, 80, 81, 82, 83, 84, 85, 86, 87, 88, 89, 90, 91, 92, 93, 94] (by decide +kernel) (by decide +kernel)
set_option maxRecDepth 20000 in
theorem gX6_work_X6_grind : GoodIn wsX6_work (wsV RX6 156 RX6 yX6_grind wsX6_grind) := goodIn_app (goodIn_of _ (by decide +kernel)) ggX6_work_X6_grind
set_option maxRecDepth 20000 in
theorem ggX6_work_J9_min_e70c8 : GoodIn wsX6_work wsJ9_min_e70c8 := goodIn_r _ [59, 60, 61, 62, 63, 64] (by decide +kernel) (by decide +kernel)
set_option maxRecDepth 20000 in
theorem gX6_work_J9_min_e70c8 : GoodIn wsX6_work (va_wsS RX6 126 yJ9_min_e70c8 wsJ9_min_e70c8) := goodIn_app (goodIn_of _ (by decide +kernel)) ggX6_work_J9_min_e70c8
theorem dX6_work_0 : decode cX6_work 0 = .ok (.aload_n 0, 1) := by decide +kernel
theorem dX6_work_1 : decode cX6_work 1 = .ok (.getfield 27, 3) := by decide +kernel
theorem dX6_work_4 : decode cX6_work 4 = .ok (.iload_n 1, 1) := by decide +kernel
theorem dX6_work_5 : decode cX6_work 5 = .ok (.iaload, 1) := by decide +kernel
theorem dX6_work_6 : decode cX6_work 6 = .ok (.ifCond .le 31, 3) := by decide +kernel
theorem dX6_work_9 : decode cX6_work 9 = .ok (.aload_n 0, 1) := by decide +kernel
theorem dX6_work_10 : decode cX6_work 10 = .ok (.getfield 27, 3) := by decide +kernel
theorem dX6_work_13 : decode cX6_work 13 = .ok (.iload_n 1, 1) := by decide +kernel
theorem dX6_work_14 : decode cX6_work 14 = .ok (.dup2, 1) := by decide +kernel
theorem dX6_work_15 : decode cX6_work 15 = .ok (.iaload, 1) := by decide +kernel
theorem dX6_work_16 : decode cX6_work 16 = .ok (.iconst 1, 1) := by decide +kernel
theorem dX6_work_17 : decode cX6_work 17 = .ok (.isub, 1) := by decide +kernel
theorem dX6_work_18 : decode cX6_work 18 = .ok (.iastore, 1) := by decide +kernel
theorem dX6_work_19 : decode cX6_work 19 = .ok (.aload_n 0, 1) := by decide +kernel
theorem dX6_work_20 : decode cX6_work 20 = .ok (.getfield 27, 3) := by decide +kernel
theorem dX6_work_23 : decode cX6_work 23 = .ok (.iload_n 1, 1) := by decide +kernel
theorem dX6_work_24 : decode cX6_work 24 = .ok (.iaload, 1) := by decide +kernel
theorem dX6_work_25 : decode cX6_work 25 = .ok (.ifCond .ne 10, 3) := by decide +kernel
theorem dX6_work_28 : decode cX6_work 28 = .ok (.aload_n 0, 1) := by decide +kernel
theorem dX6_work_29 : decode cX6_work 29 = .ok (.getfield 19, 3) := by decide +kernel
theorem dX6_work_32 : decode cX6_work 32 = .ok (.iload_n 1, 1) := by decide +kernel
theorem dX6_work_33 : decode cX6_work 33 = .ok (.fconst 0, 1) := by decide +kernel
theorem dX6_work_34 : decode cX6_work 34 = .ok (.fastore, 1) := by decide +kernel
theorem dX6_work_35 : decode cX6_work 35 = .ok (.dload_n 2, 1) := by decide +kernel
theorem dX6_work_36 : decode cX6_work 36 = .ok (.dreturn, 1) := by decide +kernel
theorem dX6_work_37 : decode cX6_work 37 = .ok (.aload_n 0, 1) := by decide +kernel
theorem dX6_work_38 : decode cX6_work 38 = .ok (.invokevirtual 152, 3) := by decide +kernel
theorem dX6_work_41 : decode cX6_work 41 = .ok (.ifCond .ne 5, 3) := by decide +kernel
theorem dX6_work_44 : decode cX6_work 44 = .ok (.dload_n 2, 1) := by decide +kernel
theorem dX6_work_45 : decode cX6_work 45 = .ok (.dreturn, 1) := by decide +kernel
theorem dX6_work_46 : decode cX6_work 46 = .ok (.aload_n 0, 1) := by decide +kernel
theorem dX6_work_47 : decode cX6_work 47 = .ok (.getfield 23, 3) := by decide +kernel
theorem dX6_work_50 : decode cX6_work 50 = .ok (.iload_n 1, 1) := by decide +kernel
theorem dX6_work_51 : decode cX6_work 51 = .ok (.iaload, 1) := by decide +kernel
theorem dX6_work_52 : decode cX6_work 52 = .ok (.iconst (-1), 1) := by decide +kernel
theorem dX6_work_53 : decode cX6_work 53 = .ok (.if_icmp .eq 16, 3) := by decide +kernel
theorem dX6_work_56 : decode cX6_work 56 = .ok (.aload_n 0, 1) := by decide +kernel
theorem dX6_work_57 : decode cX6_work 57 = .ok (.iload_n 1, 1) := by decide +kernel
theorem dX6_work_58 : decode cX6_work 58 = .ok (.aload_n 0, 1) := by decide +kernel
theorem dX6_work_59 : decode cX6_work 59 = .ok (.getfield 23, 3) := by decide +kernel
theorem dX6_work_62 : decode cX6_work 62 = .ok (.iload_n 1, 1) := by decide +kernel
theorem dX6_work_63 : decode cX6_work 63 = .ok (.iaload, 1) := by decide +kernel
theorem dX6_work_64 : decode cX6_work 64 = .ok (.dload_n 2, 1) := by decide +kernel
theorem dX6_work_65 : decode cX6_work 65 = .ok (.invokevirtual 156, 3) := by decide +kernel
theorem dX6_work_68 : decode cX6_work 68 = .ok (.dreturn, 1) := by decide +kernel
theorem dX6_work_69 : decode cX6_work 69 = .ok (.dload_n 2, 1) := by decide +kernel
theorem dX6_work_70 : decode cX6_work 70 = .ok (.dconst 1, 1) := by decide +kernel
theorem dX6_work_71 : decode cX6_work 71 = .ok (.dcmp .l, 1) := by decide +kernel
theorem dX6_work_72 : decode cX6_work 72 = .ok (.ifCond .gt 5, 3) := by decide +kernel
theorem dX6_work_75 : decode cX6_work 75 = .ok (.dload_n 2, 1) := by decide +kernel
theorem dX6_work_76 : decode cX6_work 76 = .ok (.dreturn, 1) := by decide +kernel
theorem dX6_work_77 : decode cX6_work 77 = .ok (.aload_n 0, 1) := by decide +kernel
theorem dX6_work_78 : decode cX6_work 78 = .ok (.getfield 30, 3) := by decide +kernel
theorem dX6_work_81 : decode cX6_work 81 = .ok (.iload_n 1, 1) := by decide +kernel
theorem dX6_work_82 : decode cX6_work 82 = .ok (.dup2, 1) := by decide +kernel
theorem dX6_work_83 : decode cX6_work 83 = .ok (.iaload, 1) := by decide +kernel
theorem dX6_work_84 : decode cX6_work 84 = .ok (.iconst 1, 1) := by decide +kernel
theorem dX6_work_85 : decode cX6_work 85 = .ok (.iadd, 1) := by decide +kernel
theorem dX6_work_86 : decode cX6_work 86 = .ok (.iastore, 1) := by decide +kernel
theorem dX6_work_87 : decode cX6_work 87 = .ok (.aload_n 0, 1) := by decide +kernel
theorem dX6_work_88 : decode cX6_work 88 = .ok (.getfield 19, 3) := by decide +kernel
theorem dX6_work_91 : decode cX6_work 91 = .ok (.iload_n 1, 1) := by decide +kernel
theorem dX6_work_92 : decode cX6_work 92 = .ok (.fconst 1, 1) := by decide +kernel
theorem dX6_work_93 : decode cX6_work 93 = .ok (.aload_n 0, 1) := by decide +kernel
theorem dX6_work_94 : decode cX6_work 94 = .ok (.getfield 19, 3) := by decide +kernel
theorem dX6_work_97 : decode cX6_work 97 = .ok (.iload_n 1, 1) := by decide +kernel
theorem dX6_work_98 : decode cX6_work 98 = .ok (.faload, 1) := by decide +kernel
theorem dX6_work_99 : decode cX6_work 99 = .ok (.ldc 138, 2) := by decide +kernel
theorem dX6_work_101 : decode cX6_work 101 = .ok (.fadd, 1) := by decide +kernel
theorem dX6_work_102 : decode cX6_work 102 = .ok (.invokestatic 126, 3) := by decide +kernel
theorem dX6_work_105 : decode cX6_work 105 = .ok (.fastore, 1) := by decide +kernel
theorem dX6_work_106 : decode cX6_work 106 = .ok (.dload_n 2, 1) := by decide +kernel
theorem dX6_work_107 : decode cX6_work 107 = .ok (.dconst 1, 1) := by decide +kernel
theorem dX6_work_108 : decode cX6_work 108 = .ok (.dsub, 1) := by decide +kernel
theorem dX6_work_109 : decode cX6_work 109 = .ok (.dreturn, 1) := by decide +kernel
set_option maxRecDepth 20000 in
theorem ggX6_grind_Jx4a65c_get_915e3 : GoodIn wsX6_grind wsJx4a65c_get_915e3 := goodIn_r _ [15, 16, 17, 18, 19, 20, 21, 22, 23, 24, 25, 26, 27, 14, 28, 29, 77, 78, 79] (by decide +kernel) (by decide +kernel)
set_option maxRecDepth 20000 in
theorem gX6_grind_Jx4a65c_get_915e3_f164Jx4a65c : GoodIn wsX6_grind (va_wsF RX6 164 RJx4a65c ⟨"java/util/List", "get", "(I)Ljava/lang/Object;"⟩ yJx4a65c_get_915e3 wsJx4a65c_get_915e3) := goodIn_app (goodIn_of _ (by decide +kernel)) ggX6_grind_Jx4a65c_get_915e3
set_option maxRecDepth 20000 in
theorem ggX6_grind_J9_min_eb370 : GoodIn wsX6_grind wsJ9_min_eb370 := goodIn_r _ [33, 34, 35, 36, 37, 38] (by decide +kernel) (by decide +kernel)
set_option maxRecDepth 20000 in
theorem gX6_grind_J9_min_eb370 : GoodIn wsX6_grind (va_wsS RX6 171 yJ9_min_eb370 wsJ9_min_eb370) := goodIn_app (goodIn_of _ (by decide +kernel)) ggX6_grind_J9_min_eb370
set_option maxRecDepth 20000 in
theorem ggX6_grind_J9_max_eb370 : GoodIn wsX6_grind wsJ9_max_eb370 := goodIn_r _ [41, 34, 35, 36, 37, 38] (by decide +kernel) (by decide +kernel)
set_option maxRecDepth 20000 in
theorem gX6_grind_J9_max_eb370 : GoodIn wsX6_grind (va_wsS RX6 131 yJ9_max_eb370 wsJ9_max_eb370) := goodIn_app (goodIn_of _ (by decide +kernel)) ggX6_grind_J9_max_eb370
set_option maxRecDepth 20000 in
theorem ggX6_grind_J9_min_e70c8 : GoodIn wsX6_grind wsJ9_min_e70c8 := goodIn_r _ [44, 45, 46, 47, 48, 49] (by decide +kernel) (by decide +kernel)
set_option maxRecDepth 20000 in
theorem gX6_grind_J9_min_e70c8 : GoodIn wsX6_grind (va_wsS RX6 126 yJ9_min_e70c8 wsJ9_min_e70c8) := goodIn_app (goodIn_of _ (by decide +kernel)) ggX6_grind_J9_min_e70c8
theorem dX6_grind_0 : decode cX6_grind 0 = .ok (.aload_n 0, 1) := by decide +kernel
theorem dX6_grind_1 : decode cX6_grind 1 = .ok (.getfield 3, 3) := by decide +kernel
theorem dX6_grind_4 : decode cX6_grind 4 = .ok (.getfield 160, 3) := by decide +kernel
theorem dX6_grind_7 : decode cX6_grind 7 = .ok (.iload_n 2, 1) := by decide +kernel
theorem dX6_grind_8 : decode cX6_grind 8 = .ok (.invokeinterface 164 2, 5) := by decide +kernel
theorem dX6_grind_13 : decode cX6_grind 13 = .ok (.checkcast 170, 3) := by decide +kernel
theorem dX6_grind_16 : decode cX6_grind 16 = .ok (.iconst 1, 1) := by decide +kernel
theorem dX6_grind_17 : decode cX6_grind 17 = .ok (.iaload, 1) := by decide +kernel
theorem dX6_grind_18 : decode cX6_grind 18 = .ok (.istore 5, 2) := by decide +kernel
theorem dX6_grind_20 : decode cX6_grind 20 = .ok (.dconst 1, 1) := by decide +kernel
theorem dX6_grind_21 : decode cX6_grind 21 = .ok (.aload_n 0, 1) := by decide +kernel
theorem dX6_grind_22 : decode cX6_grind 22 = .ok (.getfield 19, 3) := by decide +kernel
theorem dX6_grind_25 : decode cX6_grind 25 = .ok (.iload_n 1, 1) := by decide +kernel
theorem dX6_grind_26 : decode cX6_grind 26 = .ok (.faload, 1) := by decide +kernel
theorem dX6_grind_27 : decode cX6_grind 27 = .ok (.f2d, 1) := by decide +kernel
theorem dX6_grind_28 : decode cX6_grind 28 = .ok (.dadd, 1) := by decide +kernel
theorem dX6_grind_29 : decode cX6_grind 29 = .ok (.dstore 6, 2) := by decide +kernel
theorem dX6_grind_31 : decode cX6_grind 31 = .ok (.dload 6, 2) := by decide +kernel
theorem dX6_grind_33 : decode cX6_grind 33 = .ok (.dload_n 3, 1) := by decide +kernel
theorem dX6_grind_34 : decode cX6_grind 34 = .ok (.invokestatic 171, 3) := by decide +kernel
theorem dX6_grind_37 : decode cX6_grind 37 = .ok (.dstore 8, 2) := by decide +kernel
theorem dX6_grind_39 : decode cX6_grind 39 = .ok (.dload 8, 2) := by decide +kernel
theorem dX6_grind_41 : decode cX6_grind 41 = .ok (.dload 6, 2) := by decide +kernel
theorem dX6_grind_43 : decode cX6_grind 43 = .ok (.ddiv, 1) := by decide +kernel
theorem dX6_grind_44 : decode cX6_grind 44 = .ok (.dstore 10, 2) := by decide +kernel
theorem dX6_grind_46 : decode cX6_grind 46 = .ok (.aload_n 0, 1) := by decide +kernel
theorem dX6_grind_47 : decode cX6_grind 47 = .ok (.getfield 33, 3) := by decide +kernel
theorem dX6_grind_50 : decode cX6_grind 50 = .ok (.iload_n 2, 1) := by decide +kernel
theorem dX6_grind_51 : decode cX6_grind 51 = .ok (.dconst 0, 1) := by decide +kernel
theorem dX6_grind_52 : decode cX6_grind 52 = .ok (.aload_n 0, 1) := by decide +kernel
theorem dX6_grind_53 : decode cX6_grind 53 = .ok (.getfield 33, 3) := by decide +kernel
theorem dX6_grind_56 : decode cX6_grind 56 = .ok (.iload_n 2, 1) := by decide +kernel
theorem dX6_grind_57 : decode cX6_grind 57 = .ok (.daload, 1) := by decide +kernel
theorem dX6_grind_58 : decode cX6_grind 58 = .ok (.dload 10, 2) := by decide +kernel
theorem dX6_grind_60 : decode cX6_grind 60 = .ok (.iload 5, 2) := by decide +kernel
theorem dX6_grind_62 : decode cX6_grind 62 = .ok (.ifCond .ne 9, 3) := by decide +kernel
theorem dX6_grind_65 : decode cX6_grind 65 = .ok (.ldc2_w 96, 3) := by decide +kernel
theorem dX6_grind_68 : decode cX6_grind 68 = .ok (.goto 18, 3) := by decide +kernel
theorem dX6_grind_71 : decode cX6_grind 71 = .ok (.iload 5, 2) := by decide +kernel
theorem dX6_grind_73 : decode cX6_grind 73 = .ok (.iconst 1, 1) := by decide +kernel
theorem dX6_grind_74 : decode cX6_grind 74 = .ok (.if_icmp .ne 9, 3) := by decide +kernel
theorem dX6_grind_77 : decode cX6_grind 77 = .ok (.ldc2_w 173, 3) := by decide +kernel
theorem dX6_grind_80 : decode cX6_grind 80 = .ok (.goto 6, 3) := by decide +kernel
theorem dX6_grind_83 : decode cX6_grind 83 = .ok (.ldc2_w 175, 3) := by decide +kernel
theorem dX6_grind_86 : decode cX6_grind 86 = .ok (.dmul, 1) := by decide +kernel
theorem dX6_grind_87 : decode cX6_grind 87 = .ok (.dsub, 1) := by decide +kernel
theorem dX6_grind_88 : decode cX6_grind 88 = .ok (.invokestatic 131, 3) := by decide +kernel
theorem dX6_grind_91 : decode cX6_grind 91 = .ok (.dastore, 1) := by decide +kernel
theorem dX6_grind_92 : decode cX6_grind 92 = .ok (.aload_n 0, 1) := by decide +kernel
theorem dX6_grind_93 : decode cX6_grind 93 = .ok (.getfield 19, 3) := by decide +kernel
theorem dX6_grind_96 : decode cX6_grind 96 = .ok (.iload_n 1, 1) := by decide +kernel
theorem dX6_grind_97 : decode cX6_grind 97 = .ok (.fconst 1, 1) := by decide +kernel
theorem dX6_grind_98 : decode cX6_grind 98 = .ok (.aload_n 0, 1) := by decide +kernel
theorem dX6_grind_99 : decode cX6_grind 99 = .ok (.getfield 19, 3) := by decide +kernel
theorem dX6_grind_102 : decode cX6_grind 102 = .ok (.iload_n 1, 1) := by decide +kernel
theorem dX6_grind_103 : decode cX6_grind 103 = .ok (.faload, 1) := by decide +kernel
theorem dX6_grind_104 : decode cX6_grind 104 = .ok (.dload 10, 2) := by decide +kernel
theorem dX6_grind_106 : decode cX6_grind 106 = .ok (.d2f, 1) := by decide +kernel
theorem dX6_grind_107 : decode cX6_grind 107 = .ok (.iload 5, 2) := by decide +kernel
theorem dX6_grind_109 : decode cX6_grind 109 = .ok (.iconst 1, 1) := by decide +kernel
theorem dX6_grind_110 : decode cX6_grind 110 = .ok (.if_icmp .ne 7, 3) := by decide +kernel
theorem dX6_grind_113 : decode cX6_grind 113 = .ok (.fconst 2, 1) := by decide +kernel
theorem dX6_grind_114 : decode cX6_grind 114 = .ok (.goto 4, 3) := by decide +kernel
theorem dX6_grind_117 : decode cX6_grind 117 = .ok (.fconst 1, 1) := by decide +kernel
theorem dX6_grind_118 : decode cX6_grind 118 = .ok (.fmul, 1) := by decide +kernel
theorem dX6_grind_119 : decode cX6_grind 119 = .ok (.ldc 125, 2) := by decide +kernel
theorem dX6_grind_121 : decode cX6_grind 121 = .ok (.fdiv, 1) := by decide +kernel
theorem dX6_grind_122 : decode cX6_grind 122 = .ok (.fadd, 1) := by decide +kernel
theorem dX6_grind_123 : decode cX6_grind 123 = .ok (.invokestatic 126, 3) := by decide +kernel
theorem dX6_grind_126 : decode cX6_grind 126 = .ok (.fastore, 1) := by decide +kernel
theorem dX6_grind_127 : decode cX6_grind 127 = .ok (.aload_n 0, 1) := by decide +kernel
theorem dX6_grind_128 : decode cX6_grind 128 = .ok (.getfield 33, 3) := by decide +kernel
theorem dX6_grind_131 : decode cX6_grind 131 = .ok (.iload_n 2, 1) := by decide +kernel
theorem dX6_grind_132 : decode cX6_grind 132 = .ok (.daload, 1) := by decide +kernel
theorem dX6_grind_133 : decode cX6_grind 133 = .ok (.dconst 0, 1) := by decide +kernel
theorem dX6_grind_134 : decode cX6_grind 134 = .ok (.dcmp .l, 1) := by decide +kernel
theorem dX6_grind_135 : decode cX6_grind 135 = .ok (.ifCond .ne 17, 3) := by decide +kernel
theorem dX6_grind_138 : decode cX6_grind 138 = .ok (.aload_n 0, 1) := by decide +kernel
theorem dX6_grind_139 : decode cX6_grind 139 = .ok (.getfield 37, 3) := by decide +kernel
theorem dX6_grind_142 : decode cX6_grind 142 = .ok (.iload_n 2, 1) := by decide +kernel
theorem dX6_grind_143 : decode cX6_grind 143 = .ok (.iconst 1, 1) := by decide +kernel
theorem dX6_grind_144 : decode cX6_grind 144 = .ok (.bastore, 1) := by decide +kernel
theorem dX6_grind_145 : decode cX6_grind 145 = .ok (.aload_n 0, 1) := by decide +kernel
theorem dX6_grind_146 : decode cX6_grind 146 = .ok (.getfield 23, 3) := by decide +kernel
theorem dX6_grind_149 : decode cX6_grind 149 = .ok (.iload_n 1, 1) := by decide +kernel
theorem dX6_grind_150 : decode cX6_grind 150 = .ok (.iconst (-1), 1) := by decide +kernel
theorem dX6_grind_151 : decode cX6_grind 151 = .ok (.iastore, 1) := by decide +kernel
theorem dX6_grind_152 : decode cX6_grind 152 = .ok (.dload_n 3, 1) := by decide +kernel
theorem dX6_grind_153 : decode cX6_grind 153 = .ok (.dload 8, 2) := by decide +kernel
theorem dX6_grind_155 : decode cX6_grind 155 = .ok (.dsub, 1) := by decide +kernel
theorem dX6_grind_156 : decode cX6_grind 156 = .ok (.dreturn, 1) := by decide +kernel
theorem dX6_pairOf_0 : decode cX6_pairOf 0 = .ok (.iconst 0, 1) := by decide +kernel
theorem dX6_pairOf_1 : decode cX6_pairOf 1 = .ok (.istore_n 2, 1) := by decide +kernel
theorem dX6_pairOf_2 : decode cX6_pairOf 2 = .ok (.iload_n 2, 1) := by decide +kernel
theorem dX6_pairOf_3 : decode cX6_pairOf 3 = .ok (.aload_n 0, 1) := by decide +kernel
theorem dX6_pairOf_4 : decode cX6_pairOf 4 = .ok (.getfield 74, 3) := by decide +kernel
theorem dX6_pairOf_7 : decode cX6_pairOf 7 = .ok (.if_icmp .ge 21, 3) := by decide +kernel
theorem dX6_pairOf_10 : decode cX6_pairOf 10 = .ok (.aload_n 0, 1) := by decide +kernel
theorem dX6_pairOf_11 : decode cX6_pairOf 11 = .ok (.getfield 23, 3) := by decide +kernel
theorem dX6_pairOf_14 : decode cX6_pairOf 14 = .ok (.iload_n 2, 1) := by decide +kernel
theorem dX6_pairOf_15 : decode cX6_pairOf 15 = .ok (.iaload, 1) := by decide +kernel
theorem dX6_pairOf_16 : decode cX6_pairOf 16 = .ok (.iload_n 1, 1) := by decide +kernel
theorem dX6_pairOf_17 : decode cX6_pairOf 17 = .ok (.if_icmp .ne 5, 3) := by decide +kernel
theorem dX6_pairOf_20 : decode cX6_pairOf 20 = .ok (.iload_n 2, 1) := by decide +kernel
theorem dX6_pairOf_21 : decode cX6_pairOf 21 = .ok (.ireturn, 1) := by decide +kernel
theorem dX6_pairOf_22 : decode cX6_pairOf 22 = .ok (.iinc 2 1, 3) := by decide +kernel
theorem dX6_pairOf_25 : decode cX6_pairOf 25 = .ok (.goto (-23), 3) := by decide +kernel
theorem dX6_pairOf_28 : decode cX6_pairOf 28 = .ok (.iconst (-1), 1) := by decide +kernel
theorem dX6_pairOf_29 : decode cX6_pairOf 29 = .ok (.ireturn, 1) := by decide +kernel
set_option maxRecDepth 20000 in
theorem ggX7_init_X6_init : GoodIn wsX7_init wsX6_init := goodIn_r _ [13, 14, 15, 2, 3, 16, 17, 18, 19, 20, 21, 22, 23, 24, 25, 26, 42, 43, 44, 45, 46, 47, 48, 49, 50, 51, 52, 53, 54, 55, 56, 57, 58, 59, 60, 61] (by decide +kernel) (by decide +kernel)
set_option maxRecDepth 20000 in
theorem gX7_init_X6_init_n9 : GoodIn wsX7_init (wsX6_init) := ggX7_init_X6_init
set_option maxRecDepth 20000 in
theorem ggX7_init_Jx4a65c_init_da8c8 : GoodIn wsX7_init wsJx4a65c_init_da8c8 := goodIn_r _ [29, 30, 31, 32, 33, 34, 35, 36, 37, 38, 39, 40, 41, 2, 3, 69, 70, 71] (by decide +kernel) (by decide +kernel)
set_option maxRecDepth 20000 in
theorem gX7_init_Jx4a65c_init_da8c8 : GoodIn wsX7_init (wsJx4a65c_init_da8c8) := ggX7_init_Jx4a65c_init_da8c8
theorem dX7_init_0 : decode cX7_init 0 = .ok (.aload_n 0, 1) := by decide +kernel
theorem dX7_init_1 : decode cX7_init 1 = .ok (.invokespecial 1, 3) := by decide +kernel
theorem dX7_init_4 : decode cX7_init 4 = .ok (.aload_n 0, 1) := by decide +kernel
theorem dX7_init_5 : decode cX7_init 5 = .ok (.new 7, 3) := by decide +kernel
theorem dX7_init_8 : decode cX7_init 8 = .ok (.dup, 1) := by decide +kernel
theorem dX7_init_9 : decode cX7_init 9 = .ok (.aload_n 0, 1) := by decide +kernel
theorem dX7_init_10 : decode cX7_init 10 = .ok (.invokespecial 9, 3) := by decide +kernel
theorem dX7_init_13 : decode cX7_init 13 = .ok (.putfield 12, 3) := by decide +kernel
theorem dX7_init_16 : decode cX7_init 16 = .ok (.aload_n 0, 1) := by decide +kernel
theorem dX7_init_17 : decode cX7_init 17 = .ok (.new 18, 3) := by decide +kernel
theorem dX7_init_20 : decode cX7_init 20 = .ok (.dup, 1) := by decide +kernel
theorem dX7_init_21 : decode cX7_init 21 = .ok (.invokespecial 20, 3) := by decide +kernel
theorem dX7_init_24 : decode cX7_init 24 = .ok (.putfield 21, 3) := by decide +kernel
theorem dX7_init_27 : decode cX7_init 27 = .ok (.return_, 1) := by decide +kernel
theorem dX7_thrown_0 : decode cX7_thrown 0 = .ok (.aload_n 0, 1) := by decide +kernel
theorem dX7_thrown_1 : decode cX7_thrown 1 = .ok (.getfield 25, 3) := by decide +kernel
theorem dX7_thrown_4 : decode cX7_thrown 4 = .ok (.ireturn, 1) := by decide +kernel
theorem dX7_no_0 : decode cX7_no 0 = .ok (.aload_n 0, 1) := by decide +kernel
theorem dX7_no_1 : decode cX7_no 1 = .ok (.iload_n 1, 1) := by decide +kernel
theorem dX7_no_2 : decode cX7_no 2 = .ok (.putfield 25, 3) := by decide +kernel
theorem dX7_no_5 : decode cX7_no 5 = .ok (.iconst 0, 1) := by decide +kernel
theorem dX7_no_6 : decode cX7_no 6 = .ok (.ireturn, 1) := by decide +kernel
theorem dX7_in_0 : decode cX7_in 0 = .ok (.iload_n 0, 1) := by decide +kernel
theorem dX7_in_1 : decode cX7_in 1 = .ok (.iload_n 1, 1) := by decide +kernel
theorem dX7_in_2 : decode cX7_in 2 = .ok (.if_icmp .lt 12, 3) := by decide +kernel
theorem dX7_in_5 : decode cX7_in 5 = .ok (.iload_n 0, 1) := by decide +kernel
theorem dX7_in_6 : decode cX7_in 6 = .ok (.iload_n 2, 1) := by decide +kernel
theorem dX7_in_7 : decode cX7_in 7 = .ok (.if_icmp .gt 7, 3) := by decide +kernel
theorem dX7_in_10 : decode cX7_in 10 = .ok (.iconst 1, 1) := by decide +kernel
theorem dX7_in_11 : decode cX7_in 11 = .ok (.goto 4, 3) := by decide +kernel
theorem dX7_in_14 : decode cX7_in 14 = .ok (.iconst 0, 1) := by decide +kernel
theorem dX7_in_15 : decode cX7_in 15 = .ok (.ireturn, 1) := by decide +kernel
set_option maxRecDepth 20000 in
theorem ggX7_settle_Jx4a65c_size_8abf5 : GoodIn wsX7_settle wsJx4a65c_size_8abf5 := goodIn_r _ [9, 10, 55, 56, 57] (by decide +kernel) (by decide +kernel)
set_option maxRecDepth 20000 in
theorem gX7_settle_Jx4a65c_size_8abf5_f29Jx4a65c : GoodIn wsX7_settle (va_wsF RX7 29 RJx4a65c ⟨"java/util/List", "size", "()I"⟩ yJx4a65c_size_8abf5 wsJx4a65c_size_8abf5) := goodIn_app (goodIn_of _ (by decide +kernel)) ggX7_settle_Jx4a65c_size_8abf5
set_option maxRecDepth 20000 in
theorem ggX7_settle_Jx4a65c_get_915e3 : GoodIn wsX7_settle wsJx4a65c_get_915e3 := goodIn_r _ [14, 10, 15, 16, 17, 18, 19, 20, 21, 22, 23, 24, 25, 8, 26, 27, 55, 56, 57] (by decide +kernel) (by decide +kernel)
set_option maxRecDepth 20000 in
theorem gX7_settle_Jx4a65c_get_915e3_f39Jx4a65c : GoodIn wsX7_settle (va_wsF RX7 39 RJx4a65c ⟨"java/util/List", "get", "(I)Ljava/lang/Object;"⟩ yJx4a65c_get_915e3 wsJx4a65c_get_915e3) := goodIn_app (goodIn_of _ (by decide +kernel)) ggX7_settle_Jx4a65c_get_915e3
theorem dX7_settle_0 : decode cX7_settle 0 = .ok (.iconst 0, 1) := by decide +kernel
theorem dX7_settle_1 : decode cX7_settle 1 = .ok (.istore_n 1, 1) := by decide +kernel
theorem dX7_settle_2 : decode cX7_settle 2 = .ok (.iload_n 1, 1) := by decide +kernel
theorem dX7_settle_3 : decode cX7_settle 3 = .ok (.aload_n 0, 1) := by decide +kernel
theorem dX7_settle_4 : decode cX7_settle 4 = .ok (.getfield 21, 3) := by decide +kernel
theorem dX7_settle_7 : decode cX7_settle 7 = .ok (.invokeinterface 29 1, 5) := by decide +kernel
theorem dX7_settle_12 : decode cX7_settle 12 = .ok (.if_icmp .ge 56, 3) := by decide +kernel
theorem dX7_settle_15 : decode cX7_settle 15 = .ok (.aload_n 0, 1) := by decide +kernel
theorem dX7_settle_16 : decode cX7_settle 16 = .ok (.getfield 12, 3) := by decide +kernel
theorem dX7_settle_19 : decode cX7_settle 19 = .ok (.getfield 35, 3) := by decide +kernel
theorem dX7_settle_22 : decode cX7_settle 22 = .ok (.iload_n 1, 1) := by decide +kernel
theorem dX7_settle_23 : decode cX7_settle 23 = .ok (.baload, 1) := by decide +kernel
theorem dX7_settle_24 : decode cX7_settle 24 = .ok (.ifCond .eq 38, 3) := by decide +kernel
theorem dX7_settle_27 : decode cX7_settle 27 = .ok (.aload_n 0, 1) := by decide +kernel
theorem dX7_settle_28 : decode cX7_settle 28 = .ok (.getfield 21, 3) := by decide +kernel
theorem dX7_settle_31 : decode cX7_settle 31 = .ok (.iload_n 1, 1) := by decide +kernel
theorem dX7_settle_32 : decode cX7_settle 32 = .ok (.invokeinterface 39 2, 5) := by decide +kernel
theorem dX7_settle_37 : decode cX7_settle 37 = .ok (.checkcast 43, 3) := by decide +kernel
theorem dX7_settle_40 : decode cX7_settle 40 = .ok (.iconst 4, 1) := by decide +kernel
theorem dX7_settle_41 : decode cX7_settle 41 = .ok (.iaload, 1) := by decide +kernel
theorem dX7_settle_42 : decode cX7_settle 42 = .ok (.iconst 1, 1) := by decide +kernel
theorem dX7_settle_43 : decode cX7_settle 43 = .ok (.if_icmp .ne 19, 3) := by decide +kernel
theorem dX7_settle_46 : decode cX7_settle 46 = .ok (.aload_n 0, 1) := by decide +kernel
theorem dX7_settle_47 : decode cX7_settle 47 = .ok (.getfield 21, 3) := by decide +kernel
theorem dX7_settle_50 : decode cX7_settle 50 = .ok (.iload_n 1, 1) := by decide +kernel
theorem dX7_settle_51 : decode cX7_settle 51 = .ok (.invokeinterface 39 2, 5) := by decide +kernel
theorem dX7_settle_56 : decode cX7_settle 56 = .ok (.checkcast 43, 3) := by decide +kernel
theorem dX7_settle_59 : decode cX7_settle 59 = .ok (.iconst 4, 1) := by decide +kernel
theorem dX7_settle_60 : decode cX7_settle 60 = .ok (.iconst 2, 1) := by decide +kernel
theorem dX7_settle_61 : decode cX7_settle 61 = .ok (.iastore, 1) := by decide +kernel
theorem dX7_settle_62 : decode cX7_settle 62 = .ok (.iinc 1 1, 3) := by decide +kernel
theorem dX7_settle_65 : decode cX7_settle 65 = .ok (.goto (-63), 3) := by decide +kernel
theorem dX7_settle_68 : decode cX7_settle 68 = .ok (.return_, 1) := by decide +kernel
set_option maxRecDepth 20000 in
theorem ggX7_isPair_X7_in : GoodIn wsX7_isPair wsX7_in := goodIn_r _ [6] (by decide +kernel) (by decide +kernel)
set_option maxRecDepth 20000 in
theorem gX7_isPair_X7_in : GoodIn wsX7_isPair (va_wsS RX7 48 yX7_in wsX7_in) := goodIn_app (goodIn_of _ (by decide +kernel)) ggX7_isPair_X7_in
theorem dX7_isPair_0 : decode cX7_isPair 0 = .ok (.iload_n 1, 1) := by decide +kernel
theorem dX7_isPair_1 : decode cX7_isPair 1 = .ok (.iconst 0, 1) := by decide +kernel
theorem dX7_isPair_2 : decode cX7_isPair 2 = .ok (.aload_n 0, 1) := by decide +kernel
theorem dX7_isPair_3 : decode cX7_isPair 3 = .ok (.getfield 12, 3) := by decide +kernel
theorem dX7_isPair_6 : decode cX7_isPair 6 = .ok (.getfield 45, 3) := by decide +kernel
theorem dX7_isPair_9 : decode cX7_isPair 9 = .ok (.iconst 1, 1) := by decide +kernel
theorem dX7_isPair_10 : decode cX7_isPair 10 = .ok (.isub, 1) := by decide +kernel
theorem dX7_isPair_11 : decode cX7_isPair 11 = .ok (.invokestatic 48, 3) := by decide +kernel
theorem dX7_isPair_14 : decode cX7_isPair 14 = .ok (.ireturn, 1) := by decide +kernel
set_option maxRecDepth 20000 in
theorem ggX7_isLot_Jx4a65c_size_8abf5 : GoodIn wsX7_isLot wsJx4a65c_size_8abf5 := goodIn_r _ [6, 7, 19, 20, 21] (by decide +kernel) (by decide +kernel)
set_option maxRecDepth 20000 in
theorem gX7_isLot_Jx4a65c_size_8abf5_f29Jx4a65c : GoodIn wsX7_isLot (va_wsF RX7 29 RJx4a65c ⟨"java/util/List", "size", "()I"⟩ yJx4a65c_size_8abf5 wsJx4a65c_size_8abf5) := goodIn_app (goodIn_of _ (by decide +kernel)) ggX7_isLot_Jx4a65c_size_8abf5
set_option maxRecDepth 20000 in
theorem ggX7_isLot_X7_in : GoodIn wsX7_isLot wsX7_in := goodIn_r _ [11] (by decide +kernel) (by decide +kernel)
set_option maxRecDepth 20000 in
theorem gX7_isLot_X7_in : GoodIn wsX7_isLot (va_wsS RX7 48 yX7_in wsX7_in) := goodIn_app (goodIn_of _ (by decide +kernel)) ggX7_isLot_X7_in
theorem dX7_isLot_0 : decode cX7_isLot 0 = .ok (.iload_n 1, 1) := by decide +kernel
theorem dX7_isLot_1 : decode cX7_isLot 1 = .ok (.iconst 0, 1) := by decide +kernel
theorem dX7_isLot_2 : decode cX7_isLot 2 = .ok (.aload_n 0, 1) := by decide +kernel
theorem dX7_isLot_3 : decode cX7_isLot 3 = .ok (.getfield 21, 3) := by decide +kernel
theorem dX7_isLot_6 : decode cX7_isLot 6 = .ok (.invokeinterface 29 1, 5) := by decide +kernel
theorem dX7_isLot_11 : decode cX7_isLot 11 = .ok (.iconst 1, 1) := by decide +kernel
theorem dX7_isLot_12 : decode cX7_isLot 12 = .ok (.isub, 1) := by decide +kernel
theorem dX7_isLot_13 : decode cX7_isLot 13 = .ok (.invokestatic 48, 3) := by decide +kernel
theorem dX7_isLot_16 : decode cX7_isLot 16 = .ok (.ireturn, 1) := by decide +kernel
set_option maxRecDepth 20000 in
theorem ggX7_count_Jx4a65c_size_8abf5 : GoodIn wsX7_count wsJx4a65c_size_8abf5 := goodIn_r _ [7, 8, 33, 34, 35] (by decide +kernel) (by decide +kernel)
set_option maxRecDepth 20000 in
theorem gX7_count_Jx4a65c_size_8abf5_f29Jx4a65c : GoodIn wsX7_count (va_wsF RX7 29 RJx4a65c ⟨"java/util/List", "size", "()I"⟩ yJx4a65c_size_8abf5 wsJx4a65c_size_8abf5) := goodIn_app (goodIn_of _ (by decide +kernel)) ggX7_count_Jx4a65c_size_8abf5
set_option maxRecDepth 20000 in
theorem ggX7_count_Jx4a65c_get_915e3 : GoodIn wsX7_count wsJx4a65c_get_915e3 := goodIn_r _ [12, 8, 13, 14, 15, 16, 17, 18, 19, 20, 21, 22, 23, 6, 24, 25, 33, 34, 35] (by decide +kernel) (by decide +kernel)
set_option maxRecDepth 20000 in
theorem gX7_count_Jx4a65c_get_915e3_f39Jx4a65c : GoodIn wsX7_count (va_wsF RX7 39 RJx4a65c ⟨"java/util/List", "get", "(I)Ljava/lang/Object;"⟩ yJx4a65c_get_915e3 wsJx4a65c_get_915e3) := goodIn_app (goodIn_of _ (by decide +kernel)) ggX7_count_Jx4a65c_get_915e3
theorem dX7_count_0 : decode cX7_count 0 = .ok (.iconst 0, 1) := by decide +kernel
theorem dX7_count_1 : decode cX7_count 1 = .ok (.istore_n 2, 1) := by decide +kernel
theorem dX7_count_2 : decode cX7_count 2 = .ok (.iconst 0, 1) := by decide +kernel
theorem dX7_count_3 : decode cX7_count 3 = .ok (.istore_n 3, 1) := by decide +kernel
theorem dX7_count_4 : decode cX7_count 4 = .ok (.iload_n 3, 1) := by decide +kernel
theorem dX7_count_5 : decode cX7_count 5 = .ok (.aload_n 0, 1) := by decide +kernel
theorem dX7_count_6 : decode cX7_count 6 = .ok (.getfield 21, 3) := by decide +kernel
theorem dX7_count_9 : decode cX7_count 9 = .ok (.invokeinterface 29 1, 5) := by decide +kernel
theorem dX7_count_14 : decode cX7_count 14 = .ok (.if_icmp .ge 36, 3) := by decide +kernel
theorem dX7_count_17 : decode cX7_count 17 = .ok (.iload_n 2, 1) := by decide +kernel
theorem dX7_count_18 : decode cX7_count 18 = .ok (.aload_n 0, 1) := by decide +kernel
theorem dX7_count_19 : decode cX7_count 19 = .ok (.getfield 21, 3) := by decide +kernel
theorem dX7_count_22 : decode cX7_count 22 = .ok (.iload_n 3, 1) := by decide +kernel
theorem dX7_count_23 : decode cX7_count 23 = .ok (.invokeinterface 39 2, 5) := by decide +kernel
theorem dX7_count_28 : decode cX7_count 28 = .ok (.checkcast 43, 3) := by decide +kernel
theorem dX7_count_31 : decode cX7_count 31 = .ok (.iconst 4, 1) := by decide +kernel
theorem dX7_count_32 : decode cX7_count 32 = .ok (.iaload, 1) := by decide +kernel
theorem dX7_count_33 : decode cX7_count 33 = .ok (.iload_n 1, 1) := by decide +kernel
theorem dX7_count_34 : decode cX7_count 34 = .ok (.if_icmp .ne 7, 3) := by decide +kernel
theorem dX7_count_37 : decode cX7_count 37 = .ok (.iconst 1, 1) := by decide +kernel
theorem dX7_count_38 : decode cX7_count 38 = .ok (.goto 4, 3) := by decide +kernel
theorem dX7_count_41 : decode cX7_count 41 = .ok (.iconst 0, 1) := by decide +kernel
theorem dX7_count_42 : decode cX7_count 42 = .ok (.iadd, 1) := by decide +kernel
theorem dX7_count_43 : decode cX7_count 43 = .ok (.istore_n 2, 1) := by decide +kernel
theorem dX7_count_44 : decode cX7_count 44 = .ok (.iinc 3 1, 3) := by decide +kernel
theorem dX7_count_47 : decode cX7_count 47 = .ok (.goto (-43), 3) := by decide +kernel
theorem dX7_count_50 : decode cX7_count 50 = .ok (.iload_n 2, 1) := by decide +kernel
theorem dX7_count_51 : decode cX7_count 51 = .ok (.ireturn, 1) := by decide +kernel
set_option maxRecDepth 20000 in
theorem ggX7_moon_X7_in : GoodIn wsX7_moon wsX7_in := goodIn_r _ [8] (by decide +kernel) (by decide +kernel)
set_option maxRecDepth 20000 in
theorem gX7_moon_X7_in : GoodIn wsX7_moon (va_wsS RX7 48 yX7_in wsX7_in) := goodIn_app (goodIn_of _ (by decide +kernel)) ggX7_moon_X7_in
set_option maxRecDepth 20000 in
theorem ggX7_moon_X7_no : GoodIn wsX7_moon wsX7_no := goodIn_r _ [12, 1, 19, 20, 21, 22, 23, 24, 25] (by decide +kernel) (by decide +kernel)
set_option maxRecDepth 20000 in
theorem gX7_moon_X7_no : GoodIn wsX7_moon (wsV RX7 52 RX7 yX7_no wsX7_no) := goodIn_app (goodIn_of _ (by decide +kernel)) ggX7_moon_X7_no
set_option maxRecDepth 20000 in
theorem ggX7_moon_X6_age : GoodIn wsX7_moon wsX6_age := goodIn_r _ [17, 18, 26, 27, 28, 29, 30, 31, 32, 33, 34, 35, 36, 37, 38, 39, 40, 41, 42, 43, 44, 45] (by decide +kernel) (by decide +kernel)
set_option maxRecDepth 20000 in
theorem gX7_moon_X6_age : GoodIn wsX7_moon (wsV RX7 62 RX6 yX6_age wsX6_age) := goodIn_app (goodIn_of _ (by decide +kernel)) ggX7_moon_X6_age
theorem dX7_moon_0 : decode cX7_moon 0 = .ok (.aload_n 0, 1) := by decide +kernel
theorem dX7_moon_1 : decode cX7_moon 1 = .ok (.iconst 0, 1) := by decide +kernel
theorem dX7_moon_2 : decode cX7_moon 2 = .ok (.putfield 25, 3) := by decide +kernel
theorem dX7_moon_5 : decode cX7_moon 5 = .ok (.iload_n 1, 1) := by decide +kernel
theorem dX7_moon_6 : decode cX7_moon 6 = .ok (.iconst 0, 1) := by decide +kernel
theorem dX7_moon_7 : decode cX7_moon 7 = .ok (.bipush 29, 2) := by decide +kernel
theorem dX7_moon_9 : decode cX7_moon 9 = .ok (.invokestatic 48, 3) := by decide +kernel
theorem dX7_moon_12 : decode cX7_moon 12 = .ok (.ifCond .ne 9, 3) := by decide +kernel
theorem dX7_moon_15 : decode cX7_moon 15 = .ok (.aload_n 0, 1) := by decide +kernel
theorem dX7_moon_16 : decode cX7_moon 16 = .ok (.iconst 1, 1) := by decide +kernel
theorem dX7_moon_17 : decode cX7_moon 17 = .ok (.invokevirtual 52, 3) := by decide +kernel
theorem dX7_moon_20 : decode cX7_moon 20 = .ok (.ireturn, 1) := by decide +kernel
theorem dX7_moon_21 : decode cX7_moon 21 = .ok (.aload_n 0, 1) := by decide +kernel
theorem dX7_moon_22 : decode cX7_moon 22 = .ok (.getfield 12, 3) := by decide +kernel
theorem dX7_moon_25 : decode cX7_moon 25 = .ok (.iload_n 1, 1) := by decide +kernel
theorem dX7_moon_26 : decode cX7_moon 26 = .ok (.putfield 56, 3) := by decide +kernel
theorem dX7_moon_29 : decode cX7_moon 29 = .ok (.aload_n 0, 1) := by decide +kernel
theorem dX7_moon_30 : decode cX7_moon 30 = .ok (.getfield 12, 3) := by decide +kernel
theorem dX7_moon_33 : decode cX7_moon 33 = .ok (.aload_n 0, 1) := by decide +kernel
theorem dX7_moon_34 : decode cX7_moon 34 = .ok (.getfield 12, 3) := by decide +kernel
theorem dX7_moon_37 : decode cX7_moon 37 = .ok (.getfield 59, 3) := by decide +kernel
theorem dX7_moon_40 : decode cX7_moon 40 = .ok (.invokevirtual 62, 3) := by decide +kernel
theorem dX7_moon_43 : decode cX7_moon 43 = .ok (.ireturn, 1) := by decide +kernel
set_option maxRecDepth 20000 in
theorem ggX7_surge_X7_in : GoodIn wsX7_surge wsX7_in := goodIn_r _ [9] (by decide +kernel) (by decide +kernel)
set_option maxRecDepth 20000 in
theorem gX7_surge_X7_in : GoodIn wsX7_surge (va_wsS RX7 48 yX7_in wsX7_in) := goodIn_app (goodIn_of _ (by decide +kernel)) ggX7_surge_X7_in
set_option maxRecDepth 20000 in
theorem ggX7_surge_X7_no : GoodIn wsX7_surge wsX7_no := goodIn_r _ [13, 1, 46, 47, 48, 49, 50, 51, 52] (by decide +kernel) (by decide +kernel)
set_option maxRecDepth 20000 in
theorem gX7_surge_X7_no : GoodIn wsX7_surge (wsV RX7 52 RX7 yX7_no wsX7_no) := goodIn_app (goodIn_of _ (by decide +kernel)) ggX7_surge_X7_no
set_option maxRecDepth 20000 in
theorem ggX7_surge_X6_sea : GoodIn wsX7_surge wsX6_sea := goodIn_r _ [18, 19, 20, 21, 22, 23, 24, 25, 26, 17, 27, 28, 29, 30, 31, 32, 33, 34, 35, 36, 37, 38, 39, 40, 41, 42, 43, 44, 45, 53, 54, 55, 56, 57, 58, 59, 60, 61, 62, 63, 64, 65, 66, 67, 68, 69, 70, 71, 72] (by decide +kernel) (by decide +kernel)
set_option maxRecDepth 20000 in
theorem gX7_surge_X6_sea : GoodIn wsX7_surge (wsV RX7 71 RX6 yX6_sea wsX6_sea) := goodIn_app (goodIn_of _ (by decide +kernel)) ggX7_surge_X6_sea
theorem dX7_surge_0 : decode cX7_surge 0 = .ok (.aload_n 0, 1) := by decide +kernel
theorem dX7_surge_1 : decode cX7_surge 1 = .ok (.iconst 0, 1) := by decide +kernel
theorem dX7_surge_2 : decode cX7_surge 2 = .ok (.putfield 25, 3) := by decide +kernel
theorem dX7_surge_5 : decode cX7_surge 5 = .ok (.iload_n 1, 1) := by decide +kernel
theorem dX7_surge_6 : decode cX7_surge 6 = .ok (.bipush (-8), 2) := by decide +kernel
theorem dX7_surge_8 : decode cX7_surge 8 = .ok (.bipush 8, 2) := by decide +kernel
theorem dX7_surge_10 : decode cX7_surge 10 = .ok (.invokestatic 48, 3) := by decide +kernel
theorem dX7_surge_13 : decode cX7_surge 13 = .ok (.ifCond .ne 10, 3) := by decide +kernel
theorem dX7_surge_16 : decode cX7_surge 16 = .ok (.aload_n 0, 1) := by decide +kernel
theorem dX7_surge_17 : decode cX7_surge 17 = .ok (.iconst 1, 1) := by decide +kernel
theorem dX7_surge_18 : decode cX7_surge 18 = .ok (.invokevirtual 52, 3) := by decide +kernel
theorem dX7_surge_21 : decode cX7_surge 21 = .ok (.i2d, 1) := by decide +kernel
theorem dX7_surge_22 : decode cX7_surge 22 = .ok (.dreturn, 1) := by decide +kernel
theorem dX7_surge_23 : decode cX7_surge 23 = .ok (.aload_n 0, 1) := by decide +kernel
theorem dX7_surge_24 : decode cX7_surge 24 = .ok (.getfield 12, 3) := by decide +kernel
theorem dX7_surge_27 : decode cX7_surge 27 = .ok (.iload_n 1, 1) := by decide +kernel
theorem dX7_surge_28 : decode cX7_surge 28 = .ok (.i2d, 1) := by decide +kernel
theorem dX7_surge_29 : decode cX7_surge 29 = .ok (.ldc2_w 65, 3) := by decide +kernel
theorem dX7_surge_32 : decode cX7_surge 32 = .ok (.ddiv, 1) := by decide +kernel
theorem dX7_surge_33 : decode cX7_surge 33 = .ok (.putfield 67, 3) := by decide +kernel
theorem dX7_surge_36 : decode cX7_surge 36 = .ok (.aload_n 0, 1) := by decide +kernel
theorem dX7_surge_37 : decode cX7_surge 37 = .ok (.getfield 12, 3) := by decide +kernel
theorem dX7_surge_40 : decode cX7_surge 40 = .ok (.aload_n 0, 1) := by decide +kernel
theorem dX7_surge_41 : decode cX7_surge 41 = .ok (.getfield 12, 3) := by decide +kernel
theorem dX7_surge_44 : decode cX7_surge 44 = .ok (.getfield 59, 3) := by decide +kernel
theorem dX7_surge_47 : decode cX7_surge 47 = .ok (.invokevirtual 71, 3) := by decide +kernel
theorem dX7_surge_50 : decode cX7_surge 50 = .ok (.dreturn, 1) := by decide +kernel
set_option maxRecDepth 20000 in
theorem ggX7_gates_X7_in : GoodIn wsX7_gates wsX7_in := goodIn_r _ [8] (by decide +kernel) (by decide +kernel)
set_option maxRecDepth 20000 in
theorem gX7_gates_X7_in : GoodIn wsX7_gates (va_wsS RX7 48 yX7_in wsX7_in) := goodIn_app (goodIn_of _ (by decide +kernel)) ggX7_gates_X7_in
set_option maxRecDepth 20000 in
theorem ggX7_gates_X7_no : GoodIn wsX7_gates wsX7_no := goodIn_r _ [12, 1, 13, 14, 15, 16, 17, 18, 19] (by decide +kernel) (by decide +kernel)
set_option maxRecDepth 20000 in
theorem gX7_gates_X7_no : GoodIn wsX7_gates (wsV RX7 52 RX7 yX7_no wsX7_no) := goodIn_app (goodIn_of _ (by decide +kernel)) ggX7_gates_X7_no
theorem dX7_gates_0 : decode cX7_gates 0 = .ok (.aload_n 0, 1) := by decide +kernel
theorem dX7_gates_1 : decode cX7_gates 1 = .ok (.iconst 0, 1) := by decide +kernel
theorem dX7_gates_2 : decode cX7_gates 2 = .ok (.putfield 25, 3) := by decide +kernel
theorem dX7_gates_5 : decode cX7_gates 5 = .ok (.iload_n 1, 1) := by decide +kernel
theorem dX7_gates_6 : decode cX7_gates 6 = .ok (.iconst 0, 1) := by decide +kernel
theorem dX7_gates_7 : decode cX7_gates 7 = .ok (.iconst 3, 1) := by decide +kernel
theorem dX7_gates_8 : decode cX7_gates 8 = .ok (.invokestatic 48, 3) := by decide +kernel
theorem dX7_gates_11 : decode cX7_gates 11 = .ok (.ifCond .ne 9, 3) := by decide +kernel
theorem dX7_gates_14 : decode cX7_gates 14 = .ok (.aload_n 0, 1) := by decide +kernel
theorem dX7_gates_15 : decode cX7_gates 15 = .ok (.iconst 1, 1) := by decide +kernel
theorem dX7_gates_16 : decode cX7_gates 16 = .ok (.invokevirtual 52, 3) := by decide +kernel
theorem dX7_gates_19 : decode cX7_gates 19 = .ok (.ireturn, 1) := by decide +kernel
theorem dX7_gates_20 : decode cX7_gates 20 = .ok (.aload_n 0, 1) := by decide +kernel
theorem dX7_gates_21 : decode cX7_gates 21 = .ok (.getfield 75, 3) := by decide +kernel
theorem dX7_gates_24 : decode cX7_gates 24 = .ok (.ifCond .eq 9, 3) := by decide +kernel
theorem dX7_gates_27 : decode cX7_gates 27 = .ok (.aload_n 0, 1) := by decide +kernel
theorem dX7_gates_28 : decode cX7_gates 28 = .ok (.iconst 2, 1) := by decide +kernel
theorem dX7_gates_29 : decode cX7_gates 29 = .ok (.invokevirtual 52, 3) := by decide +kernel
theorem dX7_gates_32 : decode cX7_gates 32 = .ok (.ireturn, 1) := by decide +kernel
theorem dX7_gates_33 : decode cX7_gates 33 = .ok (.aload_n 0, 1) := by decide +kernel
theorem dX7_gates_34 : decode cX7_gates 34 = .ok (.getfield 12, 3) := by decide +kernel
theorem dX7_gates_37 : decode cX7_gates 37 = .ok (.getfield 79, 3) := by decide +kernel
theorem dX7_gates_40 : decode cX7_gates 40 = .ok (.istore_n 2, 1) := by decide +kernel
theorem dX7_gates_41 : decode cX7_gates 41 = .ok (.aload_n 0, 1) := by decide +kernel
theorem dX7_gates_42 : decode cX7_gates 42 = .ok (.getfield 12, 3) := by decide +kernel
theorem dX7_gates_45 : decode cX7_gates 45 = .ok (.iload_n 1, 1) := by decide +kernel
theorem dX7_gates_46 : decode cX7_gates 46 = .ok (.putfield 79, 3) := by decide +kernel
theorem dX7_gates_49 : decode cX7_gates 49 = .ok (.iload_n 2, 1) := by decide +kernel
theorem dX7_gates_50 : decode cX7_gates 50 = .ok (.ireturn, 1) := by decide +kernel
set_option maxRecDepth 20000 in
theorem ggX7_sluice_X7_in : GoodIn wsX7_sluice wsX7_in := goodIn_r _ [7] (by decide +kernel) (by decide +kernel)
set_option maxRecDepth 20000 in
theorem gX7_sluice_X7_in : GoodIn wsX7_sluice (va_wsS RX7 48 yX7_in wsX7_in) := goodIn_app (goodIn_of _ (by decide +kernel)) ggX7_sluice_X7_in
set_option maxRecDepth 20000 in
theorem ggX7_sluice_X7_no : GoodIn wsX7_sluice wsX7_no := goodIn_r _ [11, 1, 12, 13, 14, 15, 16, 17, 18] (by decide +kernel) (by decide +kernel)
set_option maxRecDepth 20000 in
theorem gX7_sluice_X7_no : GoodIn wsX7_sluice (wsV RX7 52 RX7 yX7_no wsX7_no) := goodIn_app (goodIn_of _ (by decide +kernel)) ggX7_sluice_X7_no
theorem dX7_sluice_0 : decode cX7_sluice 0 = .ok (.aload_n 0, 1) := by decide +kernel
theorem dX7_sluice_1 : decode cX7_sluice 1 = .ok (.iconst 0, 1) := by decide +kernel
theorem dX7_sluice_2 : decode cX7_sluice 2 = .ok (.putfield 25, 3) := by decide +kernel
theorem dX7_sluice_5 : decode cX7_sluice 5 = .ok (.iload_n 1, 1) := by decide +kernel
theorem dX7_sluice_6 : decode cX7_sluice 6 = .ok (.iconst 0, 1) := by decide +kernel
theorem dX7_sluice_7 : decode cX7_sluice 7 = .ok (.iconst 4, 1) := by decide +kernel
theorem dX7_sluice_8 : decode cX7_sluice 8 = .ok (.invokestatic 48, 3) := by decide +kernel
theorem dX7_sluice_11 : decode cX7_sluice 11 = .ok (.ifCond .ne 9, 3) := by decide +kernel
theorem dX7_sluice_14 : decode cX7_sluice 14 = .ok (.aload_n 0, 1) := by decide +kernel
theorem dX7_sluice_15 : decode cX7_sluice 15 = .ok (.iconst 1, 1) := by decide +kernel
theorem dX7_sluice_16 : decode cX7_sluice 16 = .ok (.invokevirtual 52, 3) := by decide +kernel
theorem dX7_sluice_19 : decode cX7_sluice 19 = .ok (.ireturn, 1) := by decide +kernel
theorem dX7_sluice_20 : decode cX7_sluice 20 = .ok (.aload_n 0, 1) := by decide +kernel
theorem dX7_sluice_21 : decode cX7_sluice 21 = .ok (.getfield 12, 3) := by decide +kernel
theorem dX7_sluice_24 : decode cX7_sluice 24 = .ok (.getfield 82, 3) := by decide +kernel
theorem dX7_sluice_27 : decode cX7_sluice 27 = .ok (.istore_n 2, 1) := by decide +kernel
theorem dX7_sluice_28 : decode cX7_sluice 28 = .ok (.aload_n 0, 1) := by decide +kernel
theorem dX7_sluice_29 : decode cX7_sluice 29 = .ok (.getfield 12, 3) := by decide +kernel
theorem dX7_sluice_32 : decode cX7_sluice 32 = .ok (.iload_n 1, 1) := by decide +kernel
theorem dX7_sluice_33 : decode cX7_sluice 33 = .ok (.putfield 82, 3) := by decide +kernel
theorem dX7_sluice_36 : decode cX7_sluice 36 = .ok (.iload_n 2, 1) := by decide +kernel
theorem dX7_sluice_37 : decode cX7_sluice 37 = .ok (.ireturn, 1) := by decide +kernel
theorem dX7_scour_0 : decode cX7_scour 0 = .ok (.aload_n 0, 1) := by decide +kernel
theorem dX7_scour_1 : decode cX7_scour 1 = .ok (.iconst 0, 1) := by decide +kernel
theorem dX7_scour_2 : decode cX7_scour 2 = .ok (.putfield 25, 3) := by decide +kernel
theorem dX7_scour_5 : decode cX7_scour 5 = .ok (.aload_n 0, 1) := by decide +kernel
theorem dX7_scour_6 : decode cX7_scour 6 = .ok (.getfield 12, 3) := by decide +kernel
theorem dX7_scour_9 : decode cX7_scour 9 = .ok (.getfield 85, 3) := by decide +kernel
theorem dX7_scour_12 : decode cX7_scour 12 = .ok (.istore_n 2, 1) := by decide +kernel
theorem dX7_scour_13 : decode cX7_scour 13 = .ok (.aload_n 0, 1) := by decide +kernel
theorem dX7_scour_14 : decode cX7_scour 14 = .ok (.getfield 12, 3) := by decide +kernel
theorem dX7_scour_17 : decode cX7_scour 17 = .ok (.iload_n 1, 1) := by decide +kernel
theorem dX7_scour_18 : decode cX7_scour 18 = .ok (.putfield 85, 3) := by decide +kernel
theorem dX7_scour_21 : decode cX7_scour 21 = .ok (.iload_n 2, 1) := by decide +kernel
theorem dX7_scour_22 : decode cX7_scour 22 = .ok (.ireturn, 1) := by decide +kernel
set_option maxRecDepth 20000 in
theorem ggX7_hours_X7_in : GoodIn wsX7_hours wsX7_in := goodIn_r _ [8] (by decide +kernel) (by decide +kernel)
set_option maxRecDepth 20000 in
theorem gX7_hours_X7_in : GoodIn wsX7_hours (va_wsS RX7 48 yX7_in wsX7_in) := goodIn_app (goodIn_of _ (by decide +kernel)) ggX7_hours_X7_in
set_option maxRecDepth 20000 in
theorem ggX7_hours_X7_no : GoodIn wsX7_hours wsX7_no := goodIn_r _ [12, 1, 21, 22, 23, 24, 25, 26, 27] (by decide +kernel) (by decide +kernel)
set_option maxRecDepth 20000 in
theorem gX7_hours_X7_no : GoodIn wsX7_hours (wsV RX7 52 RX7 yX7_no wsX7_no) := goodIn_app (goodIn_of _ (by decide +kernel)) ggX7_hours_X7_no
set_option maxRecDepth 20000 in
theorem ggX7_hours_X6_isAwake : GoodIn wsX7_hours wsX6_isAwake := goodIn_r _ [17, 18, 19, 20, 28, 29, 30, 31, 32, 33, 34, 35, 36, 37, 38, 39, 40, 41, 42, 43, 44, 45, 46, 47] (by decide +kernel) (by decide +kernel)
set_option maxRecDepth 20000 in
theorem gX7_hours_X6_isAwake : GoodIn wsX7_hours (wsV RX7 94 RX6 yX6_isAwake wsX6_isAwake) := goodIn_app (goodIn_of _ (by decide +kernel)) ggX7_hours_X6_isAwake
theorem dX7_hours_0 : decode cX7_hours 0 = .ok (.aload_n 0, 1) := by decide +kernel
theorem dX7_hours_1 : decode cX7_hours 1 = .ok (.iconst 0, 1) := by decide +kernel
theorem dX7_hours_2 : decode cX7_hours 2 = .ok (.putfield 25, 3) := by decide +kernel
theorem dX7_hours_5 : decode cX7_hours 5 = .ok (.iload_n 1, 1) := by decide +kernel
theorem dX7_hours_6 : decode cX7_hours 6 = .ok (.iconst 0, 1) := by decide +kernel
theorem dX7_hours_7 : decode cX7_hours 7 = .ok (.bipush 47, 2) := by decide +kernel
theorem dX7_hours_9 : decode cX7_hours 9 = .ok (.invokestatic 48, 3) := by decide +kernel
theorem dX7_hours_12 : decode cX7_hours 12 = .ok (.ifCond .eq 13, 3) := by decide +kernel
theorem dX7_hours_15 : decode cX7_hours 15 = .ok (.iload_n 2, 1) := by decide +kernel
theorem dX7_hours_16 : decode cX7_hours 16 = .ok (.iconst 0, 1) := by decide +kernel
theorem dX7_hours_17 : decode cX7_hours 17 = .ok (.bipush 47, 2) := by decide +kernel
theorem dX7_hours_19 : decode cX7_hours 19 = .ok (.invokestatic 48, 3) := by decide +kernel
theorem dX7_hours_22 : decode cX7_hours 22 = .ok (.ifCond .ne 17, 3) := by decide +kernel
theorem dX7_hours_25 : decode cX7_hours 25 = .ok (.aload_n 0, 1) := by decide +kernel
theorem dX7_hours_26 : decode cX7_hours 26 = .ok (.iconst 1, 1) := by decide +kernel
theorem dX7_hours_27 : decode cX7_hours 27 = .ok (.invokevirtual 52, 3) := by decide +kernel
theorem dX7_hours_30 : decode cX7_hours 30 = .ok (.ifCond .le 7, 3) := by decide +kernel
theorem dX7_hours_33 : decode cX7_hours 33 = .ok (.iconst 1, 1) := by decide +kernel
theorem dX7_hours_34 : decode cX7_hours 34 = .ok (.goto 4, 3) := by decide +kernel
theorem dX7_hours_37 : decode cX7_hours 37 = .ok (.iconst 0, 1) := by decide +kernel
theorem dX7_hours_38 : decode cX7_hours 38 = .ok (.ireturn, 1) := by decide +kernel
theorem dX7_hours_39 : decode cX7_hours 39 = .ok (.aload_n 0, 1) := by decide +kernel
theorem dX7_hours_40 : decode cX7_hours 40 = .ok (.getfield 12, 3) := by decide +kernel
theorem dX7_hours_43 : decode cX7_hours 43 = .ok (.iload_n 1, 1) := by decide +kernel
theorem dX7_hours_44 : decode cX7_hours 44 = .ok (.putfield 88, 3) := by decide +kernel
theorem dX7_hours_47 : decode cX7_hours 47 = .ok (.aload_n 0, 1) := by decide +kernel
theorem dX7_hours_48 : decode cX7_hours 48 = .ok (.getfield 12, 3) := by decide +kernel
theorem dX7_hours_51 : decode cX7_hours 51 = .ok (.iload_n 2, 1) := by decide +kernel
theorem dX7_hours_52 : decode cX7_hours 52 = .ok (.putfield 91, 3) := by decide +kernel
theorem dX7_hours_55 : decode cX7_hours 55 = .ok (.aload_n 0, 1) := by decide +kernel
theorem dX7_hours_56 : decode cX7_hours 56 = .ok (.getfield 12, 3) := by decide +kernel
theorem dX7_hours_59 : decode cX7_hours 59 = .ok (.invokevirtual 94, 3) := by decide +kernel
theorem dX7_hours_62 : decode cX7_hours 62 = .ok (.ireturn, 1) := by decide +kernel
theorem dX7_lock_0 : decode cX7_lock 0 = .ok (.aload_n 0, 1) := by decide +kernel
theorem dX7_lock_1 : decode cX7_lock 1 = .ok (.iconst 0, 1) := by decide +kernel
theorem dX7_lock_2 : decode cX7_lock 2 = .ok (.putfield 25, 3) := by decide +kernel
theorem dX7_lock_5 : decode cX7_lock 5 = .ok (.aload_n 0, 1) := by decide +kernel
theorem dX7_lock_6 : decode cX7_lock 6 = .ok (.getfield 75, 3) := by decide +kernel
theorem dX7_lock_9 : decode cX7_lock 9 = .ok (.istore_n 2, 1) := by decide +kernel
theorem dX7_lock_10 : decode cX7_lock 10 = .ok (.aload_n 0, 1) := by decide +kernel
theorem dX7_lock_11 : decode cX7_lock 11 = .ok (.iload_n 1, 1) := by decide +kernel
theorem dX7_lock_12 : decode cX7_lock 12 = .ok (.putfield 75, 3) := by decide +kernel
theorem dX7_lock_15 : decode cX7_lock 15 = .ok (.iload_n 2, 1) := by decide +kernel
theorem dX7_lock_16 : decode cX7_lock 16 = .ok (.ireturn, 1) := by decide +kernel
theorem dX7_bell_0 : decode cX7_bell 0 = .ok (.aload_n 0, 1) := by decide +kernel
theorem dX7_bell_1 : decode cX7_bell 1 = .ok (.iconst 0, 1) := by decide +kernel
theorem dX7_bell_2 : decode cX7_bell 2 = .ok (.putfield 25, 3) := by decide +kernel
theorem dX7_bell_5 : decode cX7_bell 5 = .ok (.aload_n 0, 1) := by decide +kernel
theorem dX7_bell_6 : decode cX7_bell 6 = .ok (.dup, 1) := by decide +kernel
theorem dX7_bell_7 : decode cX7_bell 7 = .ok (.getfield 98, 3) := by decide +kernel
theorem dX7_bell_10 : decode cX7_bell 10 = .ok (.iconst 1, 1) := by decide +kernel
theorem dX7_bell_11 : decode cX7_bell 11 = .ok (.iadd, 1) := by decide +kernel
theorem dX7_bell_12 : decode cX7_bell 12 = .ok (.putfield 98, 3) := by decide +kernel
theorem dX7_bell_15 : decode cX7_bell 15 = .ok (.aload_n 0, 1) := by decide +kernel
theorem dX7_bell_16 : decode cX7_bell 16 = .ok (.getfield 98, 3) := by decide +kernel
theorem dX7_bell_19 : decode cX7_bell 19 = .ok (.ireturn, 1) := by decide +kernel
set_option maxRecDepth 20000 in
theorem ggX7_pair_X7_no : GoodIn wsX7_pair wsX7_no := goodIn_r _ [9, 1, 10, 11, 12, 13, 14, 15, 16] (by decide +kernel) (by decide +kernel)
set_option maxRecDepth 20000 in
theorem gX7_pair_X7_no : GoodIn wsX7_pair (wsV RX7 52 RX7 yX7_no wsX7_no) := goodIn_app (goodIn_of _ (by decide +kernel)) ggX7_pair_X7_no
theorem dX7_pair_0 : decode cX7_pair 0 = .ok (.aload_n 0, 1) := by decide +kernel
theorem dX7_pair_1 : decode cX7_pair 1 = .ok (.iconst 0, 1) := by decide +kernel
theorem dX7_pair_2 : decode cX7_pair 2 = .ok (.putfield 25, 3) := by decide +kernel
theorem dX7_pair_5 : decode cX7_pair 5 = .ok (.aload_n 0, 1) := by decide +kernel
theorem dX7_pair_6 : decode cX7_pair 6 = .ok (.getfield 12, 3) := by decide +kernel
theorem dX7_pair_9 : decode cX7_pair 9 = .ok (.getfield 45, 3) := by decide +kernel
theorem dX7_pair_12 : decode cX7_pair 12 = .ok (.iconst 3, 1) := by decide +kernel
theorem dX7_pair_13 : decode cX7_pair 13 = .ok (.if_icmp .ne 9, 3) := by decide +kernel
theorem dX7_pair_16 : decode cX7_pair 16 = .ok (.aload_n 0, 1) := by decide +kernel
theorem dX7_pair_17 : decode cX7_pair 17 = .ok (.iconst 1, 1) := by decide +kernel
theorem dX7_pair_18 : decode cX7_pair 18 = .ok (.invokevirtual 52, 3) := by decide +kernel
theorem dX7_pair_21 : decode cX7_pair 21 = .ok (.ireturn, 1) := by decide +kernel
theorem dX7_pair_22 : decode cX7_pair 22 = .ok (.aload_n 0, 1) := by decide +kernel
theorem dX7_pair_23 : decode cX7_pair 23 = .ok (.getfield 12, 3) := by decide +kernel
theorem dX7_pair_26 : decode cX7_pair 26 = .ok (.getfield 101, 3) := by decide +kernel
theorem dX7_pair_29 : decode cX7_pair 29 = .ok (.aload_n 0, 1) := by decide +kernel
theorem dX7_pair_30 : decode cX7_pair 30 = .ok (.getfield 12, 3) := by decide +kernel
theorem dX7_pair_33 : decode cX7_pair 33 = .ok (.getfield 45, 3) := by decide +kernel
theorem dX7_pair_36 : decode cX7_pair 36 = .ok (.iconst (-1), 1) := by decide +kernel
theorem dX7_pair_37 : decode cX7_pair 37 = .ok (.iastore, 1) := by decide +kernel
theorem dX7_pair_38 : decode cX7_pair 38 = .ok (.aload_n 0, 1) := by decide +kernel
theorem dX7_pair_39 : decode cX7_pair 39 = .ok (.getfield 12, 3) := by decide +kernel
theorem dX7_pair_42 : decode cX7_pair 42 = .ok (.dup, 1) := by decide +kernel
theorem dX7_pair_43 : decode cX7_pair 43 = .ok (.getfield 45, 3) := by decide +kernel
theorem dX7_pair_46 : decode cX7_pair 46 = .ok (.iconst 1, 1) := by decide +kernel
theorem dX7_pair_47 : decode cX7_pair 47 = .ok (.iadd, 1) := by decide +kernel
theorem dX7_pair_48 : decode cX7_pair 48 = .ok (.putfield 45, 3) := by decide +kernel
theorem dX7_pair_51 : decode cX7_pair 51 = .ok (.aload_n 0, 1) := by decide +kernel
theorem dX7_pair_52 : decode cX7_pair 52 = .ok (.getfield 12, 3) := by decide +kernel
theorem dX7_pair_55 : decode cX7_pair 55 = .ok (.getfield 45, 3) := by decide +kernel
theorem dX7_pair_58 : decode cX7_pair 58 = .ok (.iconst 1, 1) := by decide +kernel
theorem dX7_pair_59 : decode cX7_pair 59 = .ok (.isub, 1) := by decide +kernel
theorem dX7_pair_60 : decode cX7_pair 60 = .ok (.ireturn, 1) := by decide +kernel
set_option maxRecDepth 20000 in
theorem ggX7_lot_X7_in : GoodIn wsX7_lot wsX7_in := goodIn_r _ [10] (by decide +kernel) (by decide +kernel)
set_option maxRecDepth 20000 in
theorem gX7_lot_X7_in : GoodIn wsX7_lot (va_wsS RX7 48 yX7_in wsX7_in) := goodIn_app (goodIn_of _ (by decide +kernel)) ggX7_lot_X7_in
set_option maxRecDepth 20000 in
theorem ggX7_lot_X7_no : GoodIn wsX7_lot wsX7_no := goodIn_r _ [14, 1, 75, 76, 77, 78, 79, 80, 81] (by decide +kernel) (by decide +kernel)
set_option maxRecDepth 20000 in
theorem gX7_lot_X7_no : GoodIn wsX7_lot (wsV RX7 52 RX7 yX7_no wsX7_no) := goodIn_app (goodIn_of _ (by decide +kernel)) ggX7_lot_X7_no
set_option maxRecDepth 20000 in
theorem ggX7_lot_Jx4a65c_size_8abf5 : GoodIn wsX7_lot wsJx4a65c_size_8abf5 := goodIn_r _ [19, 20, 102, 103, 104] (by decide +kernel) (by decide +kernel)
set_option maxRecDepth 20000 in
theorem gX7_lot_Jx4a65c_size_8abf5_f29Jx4a65c : GoodIn wsX7_lot (va_wsF RX7 29 RJx4a65c ⟨"java/util/List", "size", "()I"⟩ yJx4a65c_size_8abf5 wsJx4a65c_size_8abf5) := goodIn_app (goodIn_of _ (by decide +kernel)) ggX7_lot_Jx4a65c_size_8abf5
set_option maxRecDepth 20000 in
theorem ggX7_lot_Jx4a65c_add_9ea2d : GoodIn wsX7_lot wsJx4a65c_add_9ea2d := goodIn_r _ [24, 25, 26, 27, 20, 28, 29, 30, 18, 31, 32, 33, 34, 35, 36, 37, 38, 39, 40, 41, 42, 43, 44, 45, 46, 47, 48, 49, 50, 51, 52, 53, 54, 55, 56, 57, 58, 59, 60, 61, 62, 63, 64, 65, 66, 67, 68, 69, 70, 71, 72, 73, 74, 102, 103, 104] (by decide +kernel) (by decide +kernel)
set_option maxRecDepth 20000 in
theorem gX7_lot_Jx4a65c_add_9ea2d_f108Jx4a65c : GoodIn wsX7_lot (va_wsF RX7 108 RJx4a65c ⟨"java/util/List", "add", "(Ljava/lang/Object;)Z"⟩ yJx4a65c_add_9ea2d wsJx4a65c_add_9ea2d) := goodIn_app (goodIn_of _ (by decide +kernel)) ggX7_lot_Jx4a65c_add_9ea2d
theorem dX7_lot_0 : decode cX7_lot 0 = .ok (.aload_n 0, 1) := by decide +kernel
theorem dX7_lot_1 : decode cX7_lot 1 = .ok (.iconst 0, 1) := by decide +kernel
theorem dX7_lot_2 : decode cX7_lot 2 = .ok (.putfield 25, 3) := by decide +kernel
theorem dX7_lot_5 : decode cX7_lot 5 = .ok (.iload_n 1, 1) := by decide +kernel
theorem dX7_lot_6 : decode cX7_lot 6 = .ok (.iconst 0, 1) := by decide +kernel
theorem dX7_lot_7 : decode cX7_lot 7 = .ok (.iconst 3, 1) := by decide +kernel
theorem dX7_lot_8 : decode cX7_lot 8 = .ok (.invokestatic 48, 3) := by decide +kernel
theorem dX7_lot_11 : decode cX7_lot 11 = .ok (.ifCond .eq 33, 3) := by decide +kernel
theorem dX7_lot_14 : decode cX7_lot 14 = .ok (.iload_n 2, 1) := by decide +kernel
theorem dX7_lot_15 : decode cX7_lot 15 = .ok (.iconst 0, 1) := by decide +kernel
theorem dX7_lot_16 : decode cX7_lot 16 = .ok (.iconst 2, 1) := by decide +kernel
theorem dX7_lot_17 : decode cX7_lot 17 = .ok (.invokestatic 48, 3) := by decide +kernel
theorem dX7_lot_20 : decode cX7_lot 20 = .ok (.ifCond .eq 24, 3) := by decide +kernel
theorem dX7_lot_23 : decode cX7_lot 23 = .ok (.iload_n 3, 1) := by decide +kernel
theorem dX7_lot_24 : decode cX7_lot 24 = .ok (.iconst 1, 1) := by decide +kernel
theorem dX7_lot_25 : decode cX7_lot 25 = .ok (.bipush 60, 2) := by decide +kernel
theorem dX7_lot_27 : decode cX7_lot 27 = .ok (.invokestatic 48, 3) := by decide +kernel
theorem dX7_lot_30 : decode cX7_lot 30 = .ok (.ifCond .eq 14, 3) := by decide +kernel
