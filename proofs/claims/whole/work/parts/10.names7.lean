theorem dX7_manyNow_93 : decode cX7_manyNow 93 = .ok (.aload_n 0, 1) := by decide +kernel
theorem dX7_manyNow_94 : decode cX7_manyNow 94 = .ok (.getfield 12, 3) := by decide +kernel
theorem dX7_manyNow_97 : decode cX7_manyNow 97 = .ok (.getfield 79, 3) := by decide +kernel
theorem dX7_manyNow_100 : decode cX7_manyNow 100 = .ok (.iastore, 1) := by decide +kernel
theorem dX7_manyNow_101 : decode cX7_manyNow 101 = .ok (.dup, 1) := by decide +kernel
theorem dX7_manyNow_102 : decode cX7_manyNow 102 = .ok (.iconst 5, 1) := by decide +kernel
theorem dX7_manyNow_103 : decode cX7_manyNow 103 = .ok (.aload_n 0, 1) := by decide +kernel
theorem dX7_manyNow_104 : decode cX7_manyNow 104 = .ok (.getfield 12, 3) := by decide +kernel
theorem dX7_manyNow_107 : decode cX7_manyNow 107 = .ok (.getfield 82, 3) := by decide +kernel
theorem dX7_manyNow_110 : decode cX7_manyNow 110 = .ok (.iastore, 1) := by decide +kernel
theorem dX7_manyNow_111 : decode cX7_manyNow 111 = .ok (.dup, 1) := by decide +kernel
theorem dX7_manyNow_112 : decode cX7_manyNow 112 = .ok (.bipush 6, 2) := by decide +kernel
theorem dX7_manyNow_114 : decode cX7_manyNow 114 = .ok (.aload_n 0, 1) := by decide +kernel
theorem dX7_manyNow_115 : decode cX7_manyNow 115 = .ok (.getfield 12, 3) := by decide +kernel
theorem dX7_manyNow_118 : decode cX7_manyNow 118 = .ok (.getfield 45, 3) := by decide +kernel
theorem dX7_manyNow_121 : decode cX7_manyNow 121 = .ok (.iastore, 1) := by decide +kernel
theorem dX7_manyNow_122 : decode cX7_manyNow 122 = .ok (.dup, 1) := by decide +kernel
theorem dX7_manyNow_123 : decode cX7_manyNow 123 = .ok (.bipush 7, 2) := by decide +kernel
theorem dX7_manyNow_125 : decode cX7_manyNow 125 = .ok (.aload_n 0, 1) := by decide +kernel
theorem dX7_manyNow_126 : decode cX7_manyNow 126 = .ok (.getfield 21, 3) := by decide +kernel
theorem dX7_manyNow_129 : decode cX7_manyNow 129 = .ok (.invokeinterface 29 1, 5) := by decide +kernel
theorem dX7_manyNow_134 : decode cX7_manyNow 134 = .ok (.iastore, 1) := by decide +kernel
theorem dX7_manyNow_135 : decode cX7_manyNow 135 = .ok (.dup, 1) := by decide +kernel
theorem dX7_manyNow_136 : decode cX7_manyNow 136 = .ok (.bipush 8, 2) := by decide +kernel
theorem dX7_manyNow_138 : decode cX7_manyNow 138 = .ok (.aload_n 0, 1) := by decide +kernel
theorem dX7_manyNow_139 : decode cX7_manyNow 139 = .ok (.iconst 0, 1) := by decide +kernel
theorem dX7_manyNow_140 : decode cX7_manyNow 140 = .ok (.invokevirtual 122, 3) := by decide +kernel
theorem dX7_manyNow_143 : decode cX7_manyNow 143 = .ok (.iastore, 1) := by decide +kernel
theorem dX7_manyNow_144 : decode cX7_manyNow 144 = .ok (.dup, 1) := by decide +kernel
theorem dX7_manyNow_145 : decode cX7_manyNow 145 = .ok (.bipush 9, 2) := by decide +kernel
theorem dX7_manyNow_147 : decode cX7_manyNow 147 = .ok (.aload_n 0, 1) := by decide +kernel
theorem dX7_manyNow_148 : decode cX7_manyNow 148 = .ok (.iconst 2, 1) := by decide +kernel
theorem dX7_manyNow_149 : decode cX7_manyNow 149 = .ok (.invokevirtual 122, 3) := by decide +kernel
theorem dX7_manyNow_152 : decode cX7_manyNow 152 = .ok (.iastore, 1) := by decide +kernel
theorem dX7_manyNow_153 : decode cX7_manyNow 153 = .ok (.dup, 1) := by decide +kernel
theorem dX7_manyNow_154 : decode cX7_manyNow 154 = .ok (.bipush 10, 2) := by decide +kernel
theorem dX7_manyNow_156 : decode cX7_manyNow 156 = .ok (.aload_n 0, 1) := by decide +kernel
theorem dX7_manyNow_157 : decode cX7_manyNow 157 = .ok (.iconst 3, 1) := by decide +kernel
theorem dX7_manyNow_158 : decode cX7_manyNow 158 = .ok (.invokevirtual 122, 3) := by decide +kernel
theorem dX7_manyNow_161 : decode cX7_manyNow 161 = .ok (.iastore, 1) := by decide +kernel
theorem dX7_manyNow_162 : decode cX7_manyNow 162 = .ok (.dup, 1) := by decide +kernel
theorem dX7_manyNow_163 : decode cX7_manyNow 163 = .ok (.bipush 11, 2) := by decide +kernel
theorem dX7_manyNow_165 : decode cX7_manyNow 165 = .ok (.aload_n 0, 1) := by decide +kernel
theorem dX7_manyNow_166 : decode cX7_manyNow 166 = .ok (.getfield 12, 3) := by decide +kernel
theorem dX7_manyNow_169 : decode cX7_manyNow 169 = .ok (.getfield 189, 3) := by decide +kernel
theorem dX7_manyNow_172 : decode cX7_manyNow 172 = .ok (.iastore, 1) := by decide +kernel
theorem dX7_manyNow_173 : decode cX7_manyNow 173 = .ok (.dup, 1) := by decide +kernel
theorem dX7_manyNow_174 : decode cX7_manyNow 174 = .ok (.bipush 12, 2) := by decide +kernel
theorem dX7_manyNow_176 : decode cX7_manyNow 176 = .ok (.aload_n 0, 1) := by decide +kernel
theorem dX7_manyNow_177 : decode cX7_manyNow 177 = .ok (.getfield 146, 3) := by decide +kernel
theorem dX7_manyNow_180 : decode cX7_manyNow 180 = .ok (.iastore, 1) := by decide +kernel
theorem dX7_manyNow_181 : decode cX7_manyNow 181 = .ok (.dup, 1) := by decide +kernel
theorem dX7_manyNow_182 : decode cX7_manyNow 182 = .ok (.bipush 13, 2) := by decide +kernel
theorem dX7_manyNow_184 : decode cX7_manyNow 184 = .ok (.iload_n 2, 1) := by decide +kernel
theorem dX7_manyNow_185 : decode cX7_manyNow 185 = .ok (.iastore, 1) := by decide +kernel
theorem dX7_manyNow_186 : decode cX7_manyNow 186 = .ok (.dup, 1) := by decide +kernel
theorem dX7_manyNow_187 : decode cX7_manyNow 187 = .ok (.bipush 14, 2) := by decide +kernel
theorem dX7_manyNow_189 : decode cX7_manyNow 189 = .ok (.aload_n 0, 1) := by decide +kernel
theorem dX7_manyNow_190 : decode cX7_manyNow 190 = .ok (.getfield 12, 3) := by decide +kernel
theorem dX7_manyNow_193 : decode cX7_manyNow 193 = .ok (.invokevirtual 94, 3) := by decide +kernel
theorem dX7_manyNow_196 : decode cX7_manyNow 196 = .ok (.ifCond .eq 7, 3) := by decide +kernel
theorem dX7_manyNow_199 : decode cX7_manyNow 199 = .ok (.iconst 1, 1) := by decide +kernel
theorem dX7_manyNow_200 : decode cX7_manyNow 200 = .ok (.goto 4, 3) := by decide +kernel
theorem dX7_manyNow_203 : decode cX7_manyNow 203 = .ok (.iconst 0, 1) := by decide +kernel
theorem dX7_manyNow_204 : decode cX7_manyNow 204 = .ok (.iastore, 1) := by decide +kernel
theorem dX7_manyNow_205 : decode cX7_manyNow 205 = .ok (.dup, 1) := by decide +kernel
theorem dX7_manyNow_206 : decode cX7_manyNow 206 = .ok (.bipush 15, 2) := by decide +kernel
theorem dX7_manyNow_208 : decode cX7_manyNow 208 = .ok (.aload_n 0, 1) := by decide +kernel
theorem dX7_manyNow_209 : decode cX7_manyNow 209 = .ok (.getfield 98, 3) := by decide +kernel
theorem dX7_manyNow_212 : decode cX7_manyNow 212 = .ok (.iastore, 1) := by decide +kernel
theorem dX7_manyNow_213 : decode cX7_manyNow 213 = .ok (.dup, 1) := by decide +kernel
theorem dX7_manyNow_214 : decode cX7_manyNow 214 = .ok (.bipush 16, 2) := by decide +kernel
theorem dX7_manyNow_216 : decode cX7_manyNow 216 = .ok (.aload_n 0, 1) := by decide +kernel
theorem dX7_manyNow_217 : decode cX7_manyNow 217 = .ok (.getfield 75, 3) := by decide +kernel
theorem dX7_manyNow_220 : decode cX7_manyNow 220 = .ok (.ifCond .eq 7, 3) := by decide +kernel
theorem dX7_manyNow_223 : decode cX7_manyNow 223 = .ok (.iconst 1, 1) := by decide +kernel
theorem dX7_manyNow_224 : decode cX7_manyNow 224 = .ok (.goto 4, 3) := by decide +kernel
theorem dX7_manyNow_227 : decode cX7_manyNow 227 = .ok (.iconst 0, 1) := by decide +kernel
theorem dX7_manyNow_228 : decode cX7_manyNow 228 = .ok (.iastore, 1) := by decide +kernel
theorem dX7_manyNow_229 : decode cX7_manyNow 229 = .ok (.astore_n 3, 1) := by decide +kernel
theorem dX7_manyNow_230 : decode cX7_manyNow 230 = .ok (.aload_n 3, 1) := by decide +kernel
theorem dX7_manyNow_231 : decode cX7_manyNow 231 = .ok (.iload_n 1, 1) := by decide +kernel
theorem dX7_manyNow_232 : decode cX7_manyNow 232 = .ok (.iaload, 1) := by decide +kernel
theorem dX7_manyNow_233 : decode cX7_manyNow 233 = .ok (.ireturn, 1) := by decide +kernel
set_option maxRecDepth 20000 in
theorem ggX7_many_X7_in : GoodIn wsX7_many wsX7_in := goodIn_r _ [5] (by decide +kernel) (by decide +kernel)
set_option maxRecDepth 20000 in
theorem gX7_many_X7_in : GoodIn wsX7_many (va_wsS RX7 48 yX7_in wsX7_in) := goodIn_app (goodIn_of _ (by decide +kernel)) ggX7_many_X7_in
set_option maxRecDepth 20000 in
theorem ggX7_many_X7_no : GoodIn wsX7_many wsX7_no := goodIn_r _ [9, 1, 79, 80, 81, 82, 83, 84, 85] (by decide +kernel) (by decide +kernel)
set_option maxRecDepth 20000 in
theorem gX7_many_X7_no : GoodIn wsX7_many (wsV RX7 52 RX7 yX7_no wsX7_no) := goodIn_app (goodIn_of _ (by decide +kernel)) ggX7_many_X7_no
set_option maxRecDepth 20000 in
theorem ggX7_many_X7_manyNow : GoodIn wsX7_many wsX7_manyNow := goodIn_r _ [13, 14, 15, 16, 17, 18, 19, 20, 21, 22, 23, 24, 25, 26, 27, 28, 29, 30, 31, 32, 33, 34, 35, 36, 37, 38, 39, 40, 41, 42, 43, 44, 45, 46, 47, 48, 49, 50, 51, 52, 4, 53, 54, 55, 56, 57, 58, 59, 60, 61, 62, 63, 64, 65, 66, 67, 68, 69, 70, 71, 72, 73, 74, 75, 76, 77, 78, 79, 80, 81, 82, 83, 84, 85, 86, 87, 88, 89, 90, 91, 92, 93, 94, 95, 96, 97, 98, 99, 100, 101, 102, 103, 104, 105, 106, 107, 108] (by decide +kernel) (by decide +kernel)
set_option maxRecDepth 20000 in
theorem gX7_many_X7_manyNow : GoodIn wsX7_many (wsV RX7 192 RX7 yX7_manyNow wsX7_manyNow) := goodIn_app (goodIn_of _ (by decide +kernel)) ggX7_many_X7_manyNow
theorem dX7_many_0 : decode cX7_many 0 = .ok (.aload_n 0, 1) := by decide +kernel
theorem dX7_many_1 : decode cX7_many 1 = .ok (.iconst 0, 1) := by decide +kernel
theorem dX7_many_2 : decode cX7_many 2 = .ok (.putfield 25, 3) := by decide +kernel
theorem dX7_many_5 : decode cX7_many 5 = .ok (.iload_n 1, 1) := by decide +kernel
theorem dX7_many_6 : decode cX7_many 6 = .ok (.iconst 0, 1) := by decide +kernel
theorem dX7_many_7 : decode cX7_many 7 = .ok (.bipush 16, 2) := by decide +kernel
theorem dX7_many_9 : decode cX7_many 9 = .ok (.invokestatic 48, 3) := by decide +kernel
theorem dX7_many_12 : decode cX7_many 12 = .ok (.ifCond .ne 9, 3) := by decide +kernel
theorem dX7_many_15 : decode cX7_many 15 = .ok (.aload_n 0, 1) := by decide +kernel
theorem dX7_many_16 : decode cX7_many 16 = .ok (.iconst 1, 1) := by decide +kernel
theorem dX7_many_17 : decode cX7_many 17 = .ok (.invokevirtual 52, 3) := by decide +kernel
theorem dX7_many_20 : decode cX7_many 20 = .ok (.ireturn, 1) := by decide +kernel
theorem dX7_many_21 : decode cX7_many 21 = .ok (.aload_n 0, 1) := by decide +kernel
theorem dX7_many_22 : decode cX7_many 22 = .ok (.iload_n 1, 1) := by decide +kernel
theorem dX7_many_23 : decode cX7_many 23 = .ok (.invokevirtual 192, 3) := by decide +kernel
theorem dX7_many_26 : decode cX7_many 26 = .ok (.ireturn, 1) := by decide +kernel
set_option maxRecDepth 20000 in
theorem ggX7_ownerNow_Jx4a65c_size_8abf5 : GoodIn wsX7_ownerNow wsJx4a65c_size_8abf5 := goodIn_r _ [7, 8, 33, 34, 35] (by decide +kernel) (by decide +kernel)
set_option maxRecDepth 20000 in
theorem gX7_ownerNow_Jx4a65c_size_8abf5_f29Jx4a65c : GoodIn wsX7_ownerNow (va_wsF RX7 29 RJx4a65c ⟨"java/util/List", "size", "()I"⟩ yJx4a65c_size_8abf5 wsJx4a65c_size_8abf5) := goodIn_app (goodIn_of _ (by decide +kernel)) ggX7_ownerNow_Jx4a65c_size_8abf5
set_option maxRecDepth 20000 in
theorem ggX7_ownerNow_Jx4a65c_get_915e3 : GoodIn wsX7_ownerNow wsJx4a65c_get_915e3 := goodIn_r _ [12, 8, 13, 14, 15, 16, 17, 18, 19, 20, 21, 22, 23, 6, 24, 25, 33, 34, 35] (by decide +kernel) (by decide +kernel)
set_option maxRecDepth 20000 in
theorem gX7_ownerNow_Jx4a65c_get_915e3_f39Jx4a65c : GoodIn wsX7_ownerNow (va_wsF RX7 39 RJx4a65c ⟨"java/util/List", "get", "(I)Ljava/lang/Object;"⟩ yJx4a65c_get_915e3 wsJx4a65c_get_915e3) := goodIn_app (goodIn_of _ (by decide +kernel)) ggX7_ownerNow_Jx4a65c_get_915e3
theorem dX7_ownerNow_0 : decode cX7_ownerNow 0 = .ok (.iconst 0, 1) := by decide +kernel
theorem dX7_ownerNow_1 : decode cX7_ownerNow 1 = .ok (.istore_n 3, 1) := by decide +kernel
theorem dX7_ownerNow_2 : decode cX7_ownerNow 2 = .ok (.iconst 0, 1) := by decide +kernel
theorem dX7_ownerNow_3 : decode cX7_ownerNow 3 = .ok (.istore 4, 2) := by decide +kernel
theorem dX7_ownerNow_5 : decode cX7_ownerNow 5 = .ok (.iload 4, 2) := by decide +kernel
theorem dX7_ownerNow_7 : decode cX7_ownerNow 7 = .ok (.aload_n 0, 1) := by decide +kernel
theorem dX7_ownerNow_8 : decode cX7_ownerNow 8 = .ok (.getfield 21, 3) := by decide +kernel
theorem dX7_ownerNow_11 : decode cX7_ownerNow 11 = .ok (.invokeinterface 29 1, 5) := by decide +kernel
theorem dX7_ownerNow_16 : decode cX7_ownerNow 16 = .ok (.if_icmp .ge 76, 3) := by decide +kernel
theorem dX7_ownerNow_19 : decode cX7_ownerNow 19 = .ok (.iload_n 3, 1) := by decide +kernel
theorem dX7_ownerNow_20 : decode cX7_ownerNow 20 = .ok (.aload_n 0, 1) := by decide +kernel
theorem dX7_ownerNow_21 : decode cX7_ownerNow 21 = .ok (.getfield 21, 3) := by decide +kernel
theorem dX7_ownerNow_24 : decode cX7_ownerNow 24 = .ok (.iload 4, 2) := by decide +kernel
theorem dX7_ownerNow_26 : decode cX7_ownerNow 26 = .ok (.invokeinterface 39 2, 5) := by decide +kernel
theorem dX7_ownerNow_31 : decode cX7_ownerNow 31 = .ok (.checkcast 43, 3) := by decide +kernel
theorem dX7_ownerNow_34 : decode cX7_ownerNow 34 = .ok (.iconst 0, 1) := by decide +kernel
theorem dX7_ownerNow_35 : decode cX7_ownerNow 35 = .ok (.iaload, 1) := by decide +kernel
theorem dX7_ownerNow_36 : decode cX7_ownerNow 36 = .ok (.iload_n 1, 1) := by decide +kernel
theorem dX7_ownerNow_37 : decode cX7_ownerNow 37 = .ok (.if_icmp .ne 46, 3) := by decide +kernel
theorem dX7_ownerNow_40 : decode cX7_ownerNow 40 = .ok (.iload_n 2, 1) := by decide +kernel
theorem dX7_ownerNow_41 : decode cX7_ownerNow 41 = .ok (.ifCond .ne 23, 3) := by decide +kernel
theorem dX7_ownerNow_44 : decode cX7_ownerNow 44 = .ok (.aload_n 0, 1) := by decide +kernel
theorem dX7_ownerNow_45 : decode cX7_ownerNow 45 = .ok (.getfield 21, 3) := by decide +kernel
theorem dX7_ownerNow_48 : decode cX7_ownerNow 48 = .ok (.iload 4, 2) := by decide +kernel
theorem dX7_ownerNow_50 : decode cX7_ownerNow 50 = .ok (.invokeinterface 39 2, 5) := by decide +kernel
theorem dX7_ownerNow_55 : decode cX7_ownerNow 55 = .ok (.checkcast 43, 3) := by decide +kernel
theorem dX7_ownerNow_58 : decode cX7_ownerNow 58 = .ok (.iconst 4, 1) := by decide +kernel
theorem dX7_ownerNow_59 : decode cX7_ownerNow 59 = .ok (.iaload, 1) := by decide +kernel
theorem dX7_ownerNow_60 : decode cX7_ownerNow 60 = .ok (.iconst 3, 1) := by decide +kernel
theorem dX7_ownerNow_61 : decode cX7_ownerNow 61 = .ok (.if_icmp .eq 22, 3) := by decide +kernel
theorem dX7_ownerNow_64 : decode cX7_ownerNow 64 = .ok (.aload_n 0, 1) := by decide +kernel
theorem dX7_ownerNow_65 : decode cX7_ownerNow 65 = .ok (.getfield 21, 3) := by decide +kernel
theorem dX7_ownerNow_68 : decode cX7_ownerNow 68 = .ok (.iload 4, 2) := by decide +kernel
theorem dX7_ownerNow_70 : decode cX7_ownerNow 70 = .ok (.invokeinterface 39 2, 5) := by decide +kernel
theorem dX7_ownerNow_75 : decode cX7_ownerNow 75 = .ok (.checkcast 43, 3) := by decide +kernel
theorem dX7_ownerNow_78 : decode cX7_ownerNow 78 = .ok (.iconst 2, 1) := by decide +kernel
theorem dX7_ownerNow_79 : decode cX7_ownerNow 79 = .ok (.iaload, 1) := by decide +kernel
theorem dX7_ownerNow_80 : decode cX7_ownerNow 80 = .ok (.goto 4, 3) := by decide +kernel
theorem dX7_ownerNow_83 : decode cX7_ownerNow 83 = .ok (.iconst 0, 1) := by decide +kernel
theorem dX7_ownerNow_84 : decode cX7_ownerNow 84 = .ok (.iadd, 1) := by decide +kernel
theorem dX7_ownerNow_85 : decode cX7_ownerNow 85 = .ok (.istore_n 3, 1) := by decide +kernel
theorem dX7_ownerNow_86 : decode cX7_ownerNow 86 = .ok (.iinc 4 1, 3) := by decide +kernel
theorem dX7_ownerNow_89 : decode cX7_ownerNow 89 = .ok (.goto (-84), 3) := by decide +kernel
theorem dX7_ownerNow_92 : decode cX7_ownerNow 92 = .ok (.iload_n 3, 1) := by decide +kernel
theorem dX7_ownerNow_93 : decode cX7_ownerNow 93 = .ok (.ireturn, 1) := by decide +kernel
set_option maxRecDepth 20000 in
theorem ggX7_ofOwner_X7_in : GoodIn wsX7_ofOwner wsX7_in := goodIn_r _ [5] (by decide +kernel) (by decide +kernel)
set_option maxRecDepth 20000 in
theorem gX7_ofOwner_X7_in : GoodIn wsX7_ofOwner (va_wsS RX7 48 yX7_in wsX7_in) := goodIn_app (goodIn_of _ (by decide +kernel)) ggX7_ofOwner_X7_in
set_option maxRecDepth 20000 in
theorem ggX7_ofOwner_X7_no : GoodIn wsX7_ofOwner wsX7_no := goodIn_r _ [9, 1, 39, 40, 41, 42, 43, 44, 45] (by decide +kernel) (by decide +kernel)
set_option maxRecDepth 20000 in
theorem gX7_ofOwner_X7_no : GoodIn wsX7_ofOwner (wsV RX7 52 RX7 yX7_no wsX7_no) := goodIn_app (goodIn_of _ (by decide +kernel)) ggX7_ofOwner_X7_no
set_option maxRecDepth 20000 in
theorem ggX7_ofOwner_X7_ownerNow : GoodIn wsX7_ofOwner wsX7_ownerNow := goodIn_r _ [13, 14, 15, 16, 17, 18, 19, 20, 21, 22, 23, 24, 25, 26, 27, 28, 29, 30, 31, 32, 33, 34, 35, 36, 37, 38, 39, 40, 41, 42, 43, 44, 45, 46, 47, 48] (by decide +kernel) (by decide +kernel)
set_option maxRecDepth 20000 in
theorem gX7_ofOwner_X7_ownerNow : GoodIn wsX7_ofOwner (wsV RX7 195 RX7 yX7_ownerNow wsX7_ownerNow) := goodIn_app (goodIn_of _ (by decide +kernel)) ggX7_ofOwner_X7_ownerNow
theorem dX7_ofOwner_0 : decode cX7_ofOwner 0 = .ok (.aload_n 0, 1) := by decide +kernel
theorem dX7_ofOwner_1 : decode cX7_ofOwner 1 = .ok (.iconst 0, 1) := by decide +kernel
theorem dX7_ofOwner_2 : decode cX7_ofOwner 2 = .ok (.putfield 25, 3) := by decide +kernel
theorem dX7_ofOwner_5 : decode cX7_ofOwner 5 = .ok (.iload_n 1, 1) := by decide +kernel
theorem dX7_ofOwner_6 : decode cX7_ofOwner 6 = .ok (.iconst 0, 1) := by decide +kernel
theorem dX7_ofOwner_7 : decode cX7_ofOwner 7 = .ok (.iconst 3, 1) := by decide +kernel
theorem dX7_ofOwner_8 : decode cX7_ofOwner 8 = .ok (.invokestatic 48, 3) := by decide +kernel
theorem dX7_ofOwner_11 : decode cX7_ofOwner 11 = .ok (.ifCond .ne 9, 3) := by decide +kernel
theorem dX7_ofOwner_14 : decode cX7_ofOwner 14 = .ok (.aload_n 0, 1) := by decide +kernel
theorem dX7_ofOwner_15 : decode cX7_ofOwner 15 = .ok (.iconst 1, 1) := by decide +kernel
theorem dX7_ofOwner_16 : decode cX7_ofOwner 16 = .ok (.invokevirtual 52, 3) := by decide +kernel
theorem dX7_ofOwner_19 : decode cX7_ofOwner 19 = .ok (.ireturn, 1) := by decide +kernel
theorem dX7_ofOwner_20 : decode cX7_ofOwner 20 = .ok (.aload_n 0, 1) := by decide +kernel
theorem dX7_ofOwner_21 : decode cX7_ofOwner 21 = .ok (.iload_n 1, 1) := by decide +kernel
theorem dX7_ofOwner_22 : decode cX7_ofOwner 22 = .ok (.iload_n 2, 1) := by decide +kernel
theorem dX7_ofOwner_23 : decode cX7_ofOwner 23 = .ok (.invokevirtual 195, 3) := by decide +kernel
theorem dX7_ofOwner_26 : decode cX7_ofOwner 26 = .ok (.ireturn, 1) := by decide +kernel
theorem dX7_highNow_0 : decode cX7_highNow 0 = .ok (.iconst 0, 1) := by decide +kernel
theorem dX7_highNow_1 : decode cX7_highNow 1 = .ok (.istore_n 1, 1) := by decide +kernel
theorem dX7_highNow_2 : decode cX7_highNow 2 = .ok (.aload_n 0, 1) := by decide +kernel
theorem dX7_highNow_3 : decode cX7_highNow 3 = .ok (.getfield 12, 3) := by decide +kernel
theorem dX7_highNow_6 : decode cX7_highNow 6 = .ok (.getfield 59, 3) := by decide +kernel
theorem dX7_highNow_9 : decode cX7_highNow 9 = .ok (.i2d, 1) := by decide +kernel
theorem dX7_highNow_10 : decode cX7_highNow 10 = .ok (.ldc2_w 199, 3) := by decide +kernel
theorem dX7_highNow_13 : decode cX7_highNow 13 = .ok (.drem, 1) := by decide +kernel
theorem dX7_highNow_14 : decode cX7_highNow 14 = .ok (.dstore_n 2, 1) := by decide +kernel
theorem dX7_highNow_15 : decode cX7_highNow 15 = .ok (.dload_n 2, 1) := by decide +kernel
theorem dX7_highNow_16 : decode cX7_highNow 16 = .ok (.ldc2_w 201, 3) := by decide +kernel
theorem dX7_highNow_19 : decode cX7_highNow 19 = .ok (.dcmp .g, 1) := by decide +kernel
theorem dX7_highNow_20 : decode cX7_highNow 20 = .ok (.ifCond .lt 11, 3) := by decide +kernel
theorem dX7_highNow_23 : decode cX7_highNow 23 = .ok (.dload_n 2, 1) := by decide +kernel
theorem dX7_highNow_24 : decode cX7_highNow 24 = .ok (.ldc2_w 203, 3) := by decide +kernel
theorem dX7_highNow_27 : decode cX7_highNow 27 = .ok (.dcmp .l, 1) := by decide +kernel
theorem dX7_highNow_28 : decode cX7_highNow 28 = .ok (.ifCond .lt 24, 3) := by decide +kernel
theorem dX7_highNow_31 : decode cX7_highNow 31 = .ok (.iinc 1 1, 3) := by decide +kernel
theorem dX7_highNow_34 : decode cX7_highNow 34 = .ok (.aload_n 0, 1) := by decide +kernel
theorem dX7_highNow_35 : decode cX7_highNow 35 = .ok (.getfield 12, 3) := by decide +kernel
theorem dX7_highNow_38 : decode cX7_highNow 38 = .ok (.getfield 59, 3) := by decide +kernel
theorem dX7_highNow_41 : decode cX7_highNow 41 = .ok (.iload_n 1, 1) := by decide +kernel
theorem dX7_highNow_42 : decode cX7_highNow 42 = .ok (.iadd, 1) := by decide +kernel
theorem dX7_highNow_43 : decode cX7_highNow 43 = .ok (.i2d, 1) := by decide +kernel
theorem dX7_highNow_44 : decode cX7_highNow 44 = .ok (.ldc2_w 199, 3) := by decide +kernel
theorem dX7_highNow_47 : decode cX7_highNow 47 = .ok (.drem, 1) := by decide +kernel
theorem dX7_highNow_48 : decode cX7_highNow 48 = .ok (.dstore_n 2, 1) := by decide +kernel
theorem dX7_highNow_49 : decode cX7_highNow 49 = .ok (.goto (-34), 3) := by decide +kernel
theorem dX7_highNow_52 : decode cX7_highNow 52 = .ok (.iload_n 1, 1) := by decide +kernel
theorem dX7_highNow_53 : decode cX7_highNow 53 = .ok (.ireturn, 1) := by decide +kernel
set_option maxRecDepth 20000 in
theorem ggX7_high_X7_highNow : GoodIn wsX7_high wsX7_highNow := goodIn_r _ [6, 7, 8, 9, 10, 11, 12, 13, 14, 15, 16, 17, 18, 19, 20, 21, 22, 23, 24, 25, 26, 27, 28, 29, 30, 31, 32, 33, 34, 35, 36, 37, 38] (by decide +kernel) (by decide +kernel)
set_option maxRecDepth 20000 in
theorem gX7_high_X7_highNow : GoodIn wsX7_high (wsV RX7 205 RX7 yX7_highNow wsX7_highNow) := goodIn_app (goodIn_of _ (by decide +kernel)) ggX7_high_X7_highNow
theorem dX7_high_0 : decode cX7_high 0 = .ok (.aload_n 0, 1) := by decide +kernel
theorem dX7_high_1 : decode cX7_high 1 = .ok (.iconst 0, 1) := by decide +kernel
theorem dX7_high_2 : decode cX7_high 2 = .ok (.putfield 25, 3) := by decide +kernel
theorem dX7_high_5 : decode cX7_high 5 = .ok (.aload_n 0, 1) := by decide +kernel
theorem dX7_high_6 : decode cX7_high 6 = .ok (.invokevirtual 205, 3) := by decide +kernel
theorem dX7_high_9 : decode cX7_high 9 = .ok (.ireturn, 1) := by decide +kernel
set_option maxRecDepth 20000 in
theorem ggX7_wouldLevel_X7_in : GoodIn wsX7_wouldLevel wsX7_in := goodIn_r _ [7] (by decide +kernel) (by decide +kernel)
set_option maxRecDepth 20000 in
theorem gX7_wouldLevel_X7_in : GoodIn wsX7_wouldLevel (va_wsS RX7 48 yX7_in wsX7_in) := goodIn_app (goodIn_of _ (by decide +kernel)) ggX7_wouldLevel_X7_in
set_option maxRecDepth 20000 in
theorem ggX7_wouldLevel_X7_no : GoodIn wsX7_wouldLevel wsX7_no := goodIn_r _ [11, 1, 152, 153, 154, 155, 156, 157, 158] (by decide +kernel) (by decide +kernel)
set_option maxRecDepth 20000 in
theorem gX7_wouldLevel_X7_no : GoodIn wsX7_wouldLevel (wsV RX7 52 RX7 yX7_no wsX7_no) := goodIn_app (goodIn_of _ (by decide +kernel)) ggX7_wouldLevel_X7_no
set_option maxRecDepth 20000 in
theorem ggX7_wouldLevel_X6_copy : GoodIn wsX7_wouldLevel wsX6_copy := goodIn_r _ [16, 17, 18, 15, 19, 20, 21, 22, 23, 24, 25, 26, 27, 28, 29, 30, 31, 32, 33, 34, 35, 36, 37, 38, 39, 40, 41, 42, 43, 44, 45, 46, 47, 48, 49, 50, 159, 160, 161, 162, 163, 164, 165, 166, 167, 168, 169, 170, 171, 172, 173, 174, 175, 176, 177, 178] (by decide +kernel) (by decide +kernel)
set_option maxRecDepth 20000 in
theorem gX7_wouldLevel_X6_copy : GoodIn wsX7_wouldLevel (wsV RX7 208 RX6 yX6_copy wsX6_copy) := goodIn_app (goodIn_of _ (by decide +kernel)) ggX7_wouldLevel_X6_copy
set_option maxRecDepth 20000 in
theorem ggX7_wouldLevel_X6_tick : GoodIn wsX7_wouldLevel wsX6_tick := goodIn_r _ [54, 20, 25, 23, 55, 56, 24, 57, 58, 59, 26, 60, 27, 61, 30, 62, 63, 64, 65, 15, 66, 67, 68, 69, 22, 70, 71, 72, 73, 74, 75, 76, 77, 78, 79, 80, 81, 82, 83, 84, 85, 86, 87, 88, 89, 21, 90, 91, 92, 93, 94, 95, 96, 97, 98, 99, 100, 101, 102, 103, 104, 105, 106, 107, 108, 109, 110, 111, 112, 113, 114, 115, 116, 117, 118, 37, 31, 36, 48, 119, 120, 121, 122, 28, 29, 123, 124, 125, 126, 19, 127, 38, 128, 129, 39, 130, 131, 132, 133, 134, 135, 136, 137, 138, 139, 140, 141, 142, 143, 144, 145, 146, 147, 148, 149, 150, 151, 5, 6, 7, 159, 160, 161, 162, 163, 164, 165, 166, 167, 168, 169, 170, 171, 172, 173, 174, 175, 176, 177, 178, 152, 153, 154, 155, 156, 157, 158, 179, 180, 181] (by decide +kernel) (by decide +kernel)
set_option maxRecDepth 20000 in
theorem gX7_wouldLevel_X6_tick : GoodIn wsX7_wouldLevel (wsV RX7 149 RX6 yX6_tick wsX6_tick) := goodIn_app (goodIn_of _ (by decide +kernel)) ggX7_wouldLevel_X6_tick
theorem dX7_wouldLevel_0 : decode cX7_wouldLevel 0 = .ok (.aload_n 0, 1) := by decide +kernel
theorem dX7_wouldLevel_1 : decode cX7_wouldLevel 1 = .ok (.iconst 0, 1) := by decide +kernel
theorem dX7_wouldLevel_2 : decode cX7_wouldLevel 2 = .ok (.putfield 25, 3) := by decide +kernel
theorem dX7_wouldLevel_5 : decode cX7_wouldLevel 5 = .ok (.iload_n 1, 1) := by decide +kernel
theorem dX7_wouldLevel_6 : decode cX7_wouldLevel 6 = .ok (.iconst 1, 1) := by decide +kernel
theorem dX7_wouldLevel_7 : decode cX7_wouldLevel 7 = .ok (.bipush 100, 2) := by decide +kernel
theorem dX7_wouldLevel_9 : decode cX7_wouldLevel 9 = .ok (.invokestatic 48, 3) := by decide +kernel
theorem dX7_wouldLevel_12 : decode cX7_wouldLevel 12 = .ok (.ifCond .ne 10, 3) := by decide +kernel
theorem dX7_wouldLevel_15 : decode cX7_wouldLevel 15 = .ok (.aload_n 0, 1) := by decide +kernel
theorem dX7_wouldLevel_16 : decode cX7_wouldLevel 16 = .ok (.iconst 1, 1) := by decide +kernel
theorem dX7_wouldLevel_17 : decode cX7_wouldLevel 17 = .ok (.invokevirtual 52, 3) := by decide +kernel
theorem dX7_wouldLevel_20 : decode cX7_wouldLevel 20 = .ok (.i2d, 1) := by decide +kernel
theorem dX7_wouldLevel_21 : decode cX7_wouldLevel 21 = .ok (.dreturn, 1) := by decide +kernel
theorem dX7_wouldLevel_22 : decode cX7_wouldLevel 22 = .ok (.aload_n 0, 1) := by decide +kernel
theorem dX7_wouldLevel_23 : decode cX7_wouldLevel 23 = .ok (.getfield 12, 3) := by decide +kernel
theorem dX7_wouldLevel_26 : decode cX7_wouldLevel 26 = .ok (.invokevirtual 208, 3) := by decide +kernel
theorem dX7_wouldLevel_29 : decode cX7_wouldLevel 29 = .ok (.astore_n 2, 1) := by decide +kernel
theorem dX7_wouldLevel_30 : decode cX7_wouldLevel 30 = .ok (.iconst 0, 1) := by decide +kernel
theorem dX7_wouldLevel_31 : decode cX7_wouldLevel 31 = .ok (.istore_n 3, 1) := by decide +kernel
theorem dX7_wouldLevel_32 : decode cX7_wouldLevel 32 = .ok (.iload_n 3, 1) := by decide +kernel
theorem dX7_wouldLevel_33 : decode cX7_wouldLevel 33 = .ok (.iload_n 1, 1) := by decide +kernel
theorem dX7_wouldLevel_34 : decode cX7_wouldLevel 34 = .ok (.if_icmp .ge 13, 3) := by decide +kernel
theorem dX7_wouldLevel_37 : decode cX7_wouldLevel 37 = .ok (.aload_n 2, 1) := by decide +kernel
theorem dX7_wouldLevel_38 : decode cX7_wouldLevel 38 = .ok (.invokevirtual 149, 3) := by decide +kernel
theorem dX7_wouldLevel_41 : decode cX7_wouldLevel 41 = .ok (.iinc 3 1, 3) := by decide +kernel
theorem dX7_wouldLevel_44 : decode cX7_wouldLevel 44 = .ok (.goto (-12), 3) := by decide +kernel
theorem dX7_wouldLevel_47 : decode cX7_wouldLevel 47 = .ok (.aload_n 2, 1) := by decide +kernel
theorem dX7_wouldLevel_48 : decode cX7_wouldLevel 48 = .ok (.getfield 154, 3) := by decide +kernel
theorem dX7_wouldLevel_51 : decode cX7_wouldLevel 51 = .ok (.dreturn, 1) := by decide +kernel
set_option maxRecDepth 20000 in
theorem ggX7_doneNow_Jx4a65c_get_915e3 : GoodIn wsX7_doneNow wsJx4a65c_get_915e3 := goodIn_r _ [9, 10, 11, 12, 13, 14, 15, 16, 17, 18, 19, 20, 21, 8, 22, 23, 176, 177, 178] (by decide +kernel) (by decide +kernel)
set_option maxRecDepth 20000 in
theorem gX7_doneNow_Jx4a65c_get_915e3_f39Jx4a65c : GoodIn wsX7_doneNow (va_wsF RX7 39 RJx4a65c ⟨"java/util/List", "get", "(I)Ljava/lang/Object;"⟩ yJx4a65c_get_915e3 wsJx4a65c_get_915e3) := goodIn_app (goodIn_of _ (by decide +kernel)) ggX7_doneNow_Jx4a65c_get_915e3
set_option maxRecDepth 20000 in
theorem ggX7_doneNow_X6_copy : GoodIn wsX7_doneNow wsX6_copy := goodIn_r _ [28, 29, 30, 27, 31, 32, 33, 34, 35, 36, 37, 38, 39, 40, 41, 42, 43, 44, 45, 46, 47, 48, 49, 50, 51, 52, 53, 54, 55, 56, 57, 58, 59, 60, 61, 62, 156, 157, 158, 159, 160, 161, 162, 163, 164, 165, 166, 167, 168, 169, 170, 171, 172, 173, 174, 175] (by decide +kernel) (by decide +kernel)
set_option maxRecDepth 20000 in
theorem gX7_doneNow_X6_copy : GoodIn wsX7_doneNow (wsV RX7 208 RX6 yX6_copy wsX6_copy) := goodIn_app (goodIn_of _ (by decide +kernel)) ggX7_doneNow_X6_copy
set_option maxRecDepth 20000 in
theorem ggX7_doneNow_X6_tick : GoodIn wsX7_doneNow wsX6_tick := goodIn_r _ [66, 32, 37, 35, 67, 68, 36, 69, 70, 71, 38, 72, 39, 73, 42, 74, 75, 76, 77, 27, 78, 79, 80, 81, 34, 82, 83, 84, 85, 86, 87, 88, 89, 90, 91, 92, 93, 94, 95, 96, 97, 98, 99, 100, 101, 33, 102, 103, 104, 105, 106, 107, 108, 109, 110, 111, 112, 113, 114, 115, 116, 117, 118, 119, 120, 121, 122, 123, 124, 125, 126, 127, 128, 129, 130, 49, 43, 48, 60, 131, 132, 133, 134, 40, 41, 135, 136, 137, 138, 31, 139, 50, 140, 141, 51, 142, 6, 7, 8, 9, 10, 11, 12, 13, 14, 15, 16, 17, 18, 19, 20, 21, 22, 23, 143, 144, 145, 146, 147, 148, 156, 157, 158, 159, 160, 161, 162, 163, 164, 165, 166, 167, 168, 169, 170, 171, 172, 173, 174, 175, 149, 150, 151, 152, 153, 154, 155, 176, 177, 178] (by decide +kernel) (by decide +kernel)
set_option maxRecDepth 20000 in
theorem gX7_doneNow_X6_tick : GoodIn wsX7_doneNow (wsV RX7 149 RX6 yX6_tick wsX6_tick) := goodIn_app (goodIn_of _ (by decide +kernel)) ggX7_doneNow_X6_tick
theorem dX7_doneNow_0 : decode cX7_doneNow 0 = .ok (.aload_n 0, 1) := by decide +kernel
theorem dX7_doneNow_1 : decode cX7_doneNow 1 = .ok (.getfield 21, 3) := by decide +kernel
theorem dX7_doneNow_4 : decode cX7_doneNow 4 = .ok (.iload_n 1, 1) := by decide +kernel
theorem dX7_doneNow_5 : decode cX7_doneNow 5 = .ok (.invokeinterface 39 2, 5) := by decide +kernel
theorem dX7_doneNow_10 : decode cX7_doneNow 10 = .ok (.checkcast 43, 3) := by decide +kernel
theorem dX7_doneNow_13 : decode cX7_doneNow 13 = .ok (.iconst 4, 1) := by decide +kernel
theorem dX7_doneNow_14 : decode cX7_doneNow 14 = .ok (.iaload, 1) := by decide +kernel
theorem dX7_doneNow_15 : decode cX7_doneNow 15 = .ok (.iconst 2, 1) := by decide +kernel
theorem dX7_doneNow_16 : decode cX7_doneNow 16 = .ok (.if_icmp .lt 5, 3) := by decide +kernel
theorem dX7_doneNow_19 : decode cX7_doneNow 19 = .ok (.iconst 0, 1) := by decide +kernel
theorem dX7_doneNow_20 : decode cX7_doneNow 20 = .ok (.ireturn, 1) := by decide +kernel
theorem dX7_doneNow_21 : decode cX7_doneNow 21 = .ok (.aload_n 0, 1) := by decide +kernel
theorem dX7_doneNow_22 : decode cX7_doneNow 22 = .ok (.getfield 21, 3) := by decide +kernel
theorem dX7_doneNow_25 : decode cX7_doneNow 25 = .ok (.iload_n 1, 1) := by decide +kernel
theorem dX7_doneNow_26 : decode cX7_doneNow 26 = .ok (.invokeinterface 39 2, 5) := by decide +kernel
theorem dX7_doneNow_31 : decode cX7_doneNow 31 = .ok (.checkcast 43, 3) := by decide +kernel
theorem dX7_doneNow_34 : decode cX7_doneNow 34 = .ok (.iconst 4, 1) := by decide +kernel
theorem dX7_doneNow_35 : decode cX7_doneNow 35 = .ok (.iaload, 1) := by decide +kernel
theorem dX7_doneNow_36 : decode cX7_doneNow 36 = .ok (.ifCond .ne 5, 3) := by decide +kernel
theorem dX7_doneNow_39 : decode cX7_doneNow 39 = .ok (.iconst (-1), 1) := by decide +kernel
theorem dX7_doneNow_40 : decode cX7_doneNow 40 = .ok (.ireturn, 1) := by decide +kernel
theorem dX7_doneNow_41 : decode cX7_doneNow 41 = .ok (.aload_n 0, 1) := by decide +kernel
theorem dX7_doneNow_42 : decode cX7_doneNow 42 = .ok (.getfield 12, 3) := by decide +kernel
theorem dX7_doneNow_45 : decode cX7_doneNow 45 = .ok (.invokevirtual 208, 3) := by decide +kernel
theorem dX7_doneNow_48 : decode cX7_doneNow 48 = .ok (.astore_n 2, 1) := by decide +kernel
theorem dX7_doneNow_49 : decode cX7_doneNow 49 = .ok (.iconst 1, 1) := by decide +kernel
theorem dX7_doneNow_50 : decode cX7_doneNow 50 = .ok (.istore_n 3, 1) := by decide +kernel
theorem dX7_doneNow_51 : decode cX7_doneNow 51 = .ok (.iload_n 3, 1) := by decide +kernel
theorem dX7_doneNow_52 : decode cX7_doneNow 52 = .ok (.sipush 300, 3) := by decide +kernel
theorem dX7_doneNow_55 : decode cX7_doneNow 55 = .ok (.if_icmp .gt 24, 3) := by decide +kernel
theorem dX7_doneNow_58 : decode cX7_doneNow 58 = .ok (.aload_n 2, 1) := by decide +kernel
theorem dX7_doneNow_59 : decode cX7_doneNow 59 = .ok (.invokevirtual 149, 3) := by decide +kernel
theorem dX7_doneNow_62 : decode cX7_doneNow 62 = .ok (.aload_n 2, 1) := by decide +kernel
theorem dX7_doneNow_63 : decode cX7_doneNow 63 = .ok (.getfield 35, 3) := by decide +kernel
theorem dX7_doneNow_66 : decode cX7_doneNow 66 = .ok (.iload_n 1, 1) := by decide +kernel
theorem dX7_doneNow_67 : decode cX7_doneNow 67 = .ok (.baload, 1) := by decide +kernel
theorem dX7_doneNow_68 : decode cX7_doneNow 68 = .ok (.ifCond .eq 5, 3) := by decide +kernel
theorem dX7_doneNow_71 : decode cX7_doneNow 71 = .ok (.iload_n 3, 1) := by decide +kernel
theorem dX7_doneNow_72 : decode cX7_doneNow 72 = .ok (.ireturn, 1) := by decide +kernel
theorem dX7_doneNow_73 : decode cX7_doneNow 73 = .ok (.iinc 3 1, 3) := by decide +kernel
theorem dX7_doneNow_76 : decode cX7_doneNow 76 = .ok (.goto (-25), 3) := by decide +kernel
theorem dX7_doneNow_79 : decode cX7_doneNow 79 = .ok (.iconst (-1), 1) := by decide +kernel
theorem dX7_doneNow_80 : decode cX7_doneNow 80 = .ok (.ireturn, 1) := by decide +kernel
set_option maxRecDepth 20000 in
theorem ggX7_wouldDone_X7_isLot : GoodIn wsX7_wouldDone wsX7_isLot := goodIn_r _ [6, 7, 8, 9, 10, 11, 12, 13, 14, 15, 5, 16, 167, 168, 169, 170, 171, 172, 173, 174, 175, 176] (by decide +kernel) (by decide +kernel)
set_option maxRecDepth 20000 in
theorem gX7_wouldDone_X7_isLot : GoodIn wsX7_wouldDone (wsV RX7 116 RX7 yX7_isLot wsX7_isLot) := goodIn_app (goodIn_of _ (by decide +kernel)) ggX7_wouldDone_X7_isLot
set_option maxRecDepth 20000 in
theorem ggX7_wouldDone_X7_no : GoodIn wsX7_wouldDone wsX7_no := goodIn_r _ [20, 1, 167, 168, 169, 170, 171, 172, 173] (by decide +kernel) (by decide +kernel)
set_option maxRecDepth 20000 in
theorem gX7_wouldDone_X7_no : GoodIn wsX7_wouldDone (wsV RX7 52 RX7 yX7_no wsX7_no) := goodIn_app (goodIn_of _ (by decide +kernel)) ggX7_wouldDone_X7_no
set_option maxRecDepth 20000 in
theorem ggX7_wouldDone_X7_doneNow : GoodIn wsX7_wouldDone wsX7_doneNow := goodIn_r _ [24, 7, 25, 26, 27, 28, 29, 30, 11, 31, 13, 32, 33, 34, 35, 36, 37, 38, 39, 40, 41, 42, 43, 44, 45, 46, 47, 48, 49, 50, 51, 52, 53, 54, 55, 56, 57, 58, 59, 60, 61, 62, 63, 64, 65, 66, 67, 68, 69, 70, 71, 72, 73, 74, 75, 76, 77, 78, 79, 80, 81, 82, 83, 84, 85, 86, 87, 88, 89, 90, 91, 92, 93, 94, 95, 96, 97, 98, 99, 100, 101, 102, 103, 104, 105, 106, 107, 108, 109, 110, 111, 112, 113, 114, 115, 116, 117, 118, 119, 120, 121, 122, 123, 124, 125, 126, 127, 128, 129, 130, 131, 132, 133, 134, 135, 136, 137, 138, 139, 140, 141, 142, 143, 144, 145, 146, 147, 148, 149, 150, 151, 152, 153, 154, 155, 156, 157, 158, 159, 160, 161, 162, 163, 164, 165, 166, 15, 5, 16, 167, 168, 169, 170, 171, 172, 173, 177, 178, 179, 180, 181, 182, 183, 184, 185, 186, 187, 188, 189, 190, 191, 192, 193, 194, 195, 196, 174, 175, 176] (by decide +kernel) (by decide +kernel)
set_option maxRecDepth 20000 in
theorem gX7_wouldDone_X7_doneNow : GoodIn wsX7_wouldDone (wsV RX7 212 RX7 yX7_doneNow wsX7_doneNow) := goodIn_app (goodIn_of _ (by decide +kernel)) ggX7_wouldDone_X7_doneNow
theorem dX7_wouldDone_0 : decode cX7_wouldDone 0 = .ok (.aload_n 0, 1) := by decide +kernel
theorem dX7_wouldDone_1 : decode cX7_wouldDone 1 = .ok (.iconst 0, 1) := by decide +kernel
theorem dX7_wouldDone_2 : decode cX7_wouldDone 2 = .ok (.putfield 25, 3) := by decide +kernel
theorem dX7_wouldDone_5 : decode cX7_wouldDone 5 = .ok (.aload_n 0, 1) := by decide +kernel
theorem dX7_wouldDone_6 : decode cX7_wouldDone 6 = .ok (.iload_n 1, 1) := by decide +kernel
theorem dX7_wouldDone_7 : decode cX7_wouldDone 7 = .ok (.invokevirtual 116, 3) := by decide +kernel
theorem dX7_wouldDone_10 : decode cX7_wouldDone 10 = .ok (.ifCond .ne 9, 3) := by decide +kernel
theorem dX7_wouldDone_13 : decode cX7_wouldDone 13 = .ok (.aload_n 0, 1) := by decide +kernel
theorem dX7_wouldDone_14 : decode cX7_wouldDone 14 = .ok (.iconst 1, 1) := by decide +kernel
theorem dX7_wouldDone_15 : decode cX7_wouldDone 15 = .ok (.invokevirtual 52, 3) := by decide +kernel
theorem dX7_wouldDone_18 : decode cX7_wouldDone 18 = .ok (.ireturn, 1) := by decide +kernel
theorem dX7_wouldDone_19 : decode cX7_wouldDone 19 = .ok (.aload_n 0, 1) := by decide +kernel
theorem dX7_wouldDone_20 : decode cX7_wouldDone 20 = .ok (.iload_n 1, 1) := by decide +kernel
theorem dX7_wouldDone_21 : decode cX7_wouldDone 21 = .ok (.invokevirtual 212, 3) := by decide +kernel
theorem dX7_wouldDone_24 : decode cX7_wouldDone 24 = .ok (.ireturn, 1) := by decide +kernel
set_option maxRecDepth 20000 in
theorem ggX7_bestNow_X6_copy : GoodIn wsX7_bestNow wsX6_copy := goodIn_r _ [9, 10, 11, 8, 12, 13, 14, 15, 16, 17, 18, 19, 20, 21, 22, 23, 24, 25, 26, 27, 28, 29, 30, 31, 32, 33, 34, 35, 36, 37, 38, 39, 40, 41, 42, 43, 159, 160, 161, 162, 163, 164, 165, 166, 167, 168, 169, 170, 171, 172, 173, 174, 175, 176, 177, 178] (by decide +kernel) (by decide +kernel)
set_option maxRecDepth 20000 in
theorem gX7_bestNow_X6_copy : GoodIn wsX7_bestNow (wsV RX7 208 RX6 yX6_copy wsX6_copy) := goodIn_app (goodIn_of _ (by decide +kernel)) ggX7_bestNow_X6_copy
set_option maxRecDepth 20000 in
theorem ggX7_bestNow_X6_tick : GoodIn wsX7_bestNow wsX6_tick := goodIn_r _ [47, 13, 18, 16, 48, 49, 17, 50, 51, 52, 19, 53, 20, 54, 23, 55, 56, 57, 58, 8, 59, 60, 61, 62, 15, 63, 64, 65, 66, 67, 68, 69, 70, 71, 72, 73, 74, 75, 76, 77, 78, 79, 80, 81, 82, 14, 83, 84, 85, 86, 87, 88, 89, 90, 91, 92, 93, 94, 95, 96, 97, 98, 99, 100, 101, 102, 103, 104, 105, 106, 107, 108, 109, 110, 111, 30, 24, 29, 41, 112, 113, 114, 115, 21, 22, 116, 117, 118, 119, 12, 120, 31, 121, 122, 32, 123, 124, 125, 126, 127, 128, 129, 130, 131, 132, 133, 134, 135, 136, 137, 138, 139, 140, 141, 142, 143, 144, 145, 146, 147, 159, 160, 161, 162, 163, 164, 165, 166, 167, 168, 169, 170, 171, 172, 173, 174, 175, 176, 177, 178, 152, 153, 154, 155, 156, 157, 158, 179, 180, 181] (by decide +kernel) (by decide +kernel)
set_option maxRecDepth 20000 in
theorem gX7_bestNow_X6_tick : GoodIn wsX7_bestNow (wsV RX7 149 RX6 yX6_tick wsX6_tick) := goodIn_app (goodIn_of _ (by decide +kernel)) ggX7_bestNow_X6_tick
set_option maxRecDepth 20000 in
theorem ggX7_bestNow_Jx4a65c_size_8abf5 : GoodIn wsX7_bestNow wsJx4a65c_size_8abf5 := goodIn_r _ [151, 128, 179, 180, 181] (by decide +kernel) (by decide +kernel)
set_option maxRecDepth 20000 in
theorem gX7_bestNow_Jx4a65c_size_8abf5_f29Jx4a65c : GoodIn wsX7_bestNow (va_wsF RX7 29 RJx4a65c ⟨"java/util/List", "size", "()I"⟩ yJx4a65c_size_8abf5 wsJx4a65c_size_8abf5) := goodIn_app (goodIn_of _ (by decide +kernel)) ggX7_bestNow_Jx4a65c_size_8abf5
theorem dX7_bestNow_0 : decode cX7_bestNow 0 = .ok (.iconst 0, 1) := by decide +kernel
theorem dX7_bestNow_1 : decode cX7_bestNow 1 = .ok (.istore_n 2, 1) := by decide +kernel
theorem dX7_bestNow_2 : decode cX7_bestNow 2 = .ok (.dconst 0, 1) := by decide +kernel
theorem dX7_bestNow_3 : decode cX7_bestNow 3 = .ok (.dstore_n 3, 1) := by decide +kernel
theorem dX7_bestNow_4 : decode cX7_bestNow 4 = .ok (.iconst 0, 1) := by decide +kernel
theorem dX7_bestNow_5 : decode cX7_bestNow 5 = .ok (.istore 5, 2) := by decide +kernel
theorem dX7_bestNow_7 : decode cX7_bestNow 7 = .ok (.iload 5, 2) := by decide +kernel
theorem dX7_bestNow_9 : decode cX7_bestNow 9 = .ok (.iconst 4, 1) := by decide +kernel
theorem dX7_bestNow_10 : decode cX7_bestNow 10 = .ok (.if_icmp .gt 105, 3) := by decide +kernel
theorem dX7_bestNow_13 : decode cX7_bestNow 13 = .ok (.aload_n 0, 1) := by decide +kernel
theorem dX7_bestNow_14 : decode cX7_bestNow 14 = .ok (.getfield 12, 3) := by decide +kernel
theorem dX7_bestNow_17 : decode cX7_bestNow 17 = .ok (.invokevirtual 208, 3) := by decide +kernel
theorem dX7_bestNow_20 : decode cX7_bestNow 20 = .ok (.astore 6, 2) := by decide +kernel
theorem dX7_bestNow_22 : decode cX7_bestNow 22 = .ok (.aload 6, 2) := by decide +kernel
theorem dX7_bestNow_24 : decode cX7_bestNow 24 = .ok (.iload 5, 2) := by decide +kernel
theorem dX7_bestNow_26 : decode cX7_bestNow 26 = .ok (.putfield 82, 3) := by decide +kernel
theorem dX7_bestNow_29 : decode cX7_bestNow 29 = .ok (.iconst 0, 1) := by decide +kernel
theorem dX7_bestNow_30 : decode cX7_bestNow 30 = .ok (.istore 7, 2) := by decide +kernel
theorem dX7_bestNow_32 : decode cX7_bestNow 32 = .ok (.iload 7, 2) := by decide +kernel
theorem dX7_bestNow_34 : decode cX7_bestNow 34 = .ok (.iload_n 1, 1) := by decide +kernel
theorem dX7_bestNow_35 : decode cX7_bestNow 35 = .ok (.if_icmp .ge 14, 3) := by decide +kernel
theorem dX7_bestNow_38 : decode cX7_bestNow 38 = .ok (.aload 6, 2) := by decide +kernel
theorem dX7_bestNow_40 : decode cX7_bestNow 40 = .ok (.invokevirtual 149, 3) := by decide +kernel
theorem dX7_bestNow_43 : decode cX7_bestNow 43 = .ok (.iinc 7 1, 3) := by decide +kernel
theorem dX7_bestNow_46 : decode cX7_bestNow 46 = .ok (.goto (-14), 3) := by decide +kernel
theorem dX7_bestNow_49 : decode cX7_bestNow 49 = .ok (.dconst 0, 1) := by decide +kernel
theorem dX7_bestNow_50 : decode cX7_bestNow 50 = .ok (.dstore 7, 2) := by decide +kernel
theorem dX7_bestNow_52 : decode cX7_bestNow 52 = .ok (.iconst 0, 1) := by decide +kernel
theorem dX7_bestNow_53 : decode cX7_bestNow 53 = .ok (.istore 9, 2) := by decide +kernel
theorem dX7_bestNow_55 : decode cX7_bestNow 55 = .ok (.iload 9, 2) := by decide +kernel
theorem dX7_bestNow_57 : decode cX7_bestNow 57 = .ok (.aload_n 0, 1) := by decide +kernel
theorem dX7_bestNow_58 : decode cX7_bestNow 58 = .ok (.getfield 21, 3) := by decide +kernel
theorem dX7_bestNow_61 : decode cX7_bestNow 61 = .ok (.invokeinterface 29 1, 5) := by decide +kernel
theorem dX7_bestNow_66 : decode cX7_bestNow 66 = .ok (.if_icmp .ge 22, 3) := by decide +kernel
theorem dX7_bestNow_69 : decode cX7_bestNow 69 = .ok (.dload 7, 2) := by decide +kernel
theorem dX7_bestNow_71 : decode cX7_bestNow 71 = .ok (.aload 6, 2) := by decide +kernel
theorem dX7_bestNow_73 : decode cX7_bestNow 73 = .ok (.getfield 104, 3) := by decide +kernel
theorem dX7_bestNow_76 : decode cX7_bestNow 76 = .ok (.iload 9, 2) := by decide +kernel
theorem dX7_bestNow_78 : decode cX7_bestNow 78 = .ok (.daload, 1) := by decide +kernel
theorem dX7_bestNow_79 : decode cX7_bestNow 79 = .ok (.dadd, 1) := by decide +kernel
theorem dX7_bestNow_80 : decode cX7_bestNow 80 = .ok (.dstore 7, 2) := by decide +kernel
theorem dX7_bestNow_82 : decode cX7_bestNow 82 = .ok (.iinc 9 1, 3) := by decide +kernel
theorem dX7_bestNow_85 : decode cX7_bestNow 85 = .ok (.goto (-30), 3) := by decide +kernel
theorem dX7_bestNow_88 : decode cX7_bestNow 88 = .ok (.iload 5, 2) := by decide +kernel
theorem dX7_bestNow_90 : decode cX7_bestNow 90 = .ok (.ifCond .le 13, 3) := by decide +kernel
theorem dX7_bestNow_93 : decode cX7_bestNow 93 = .ok (.dload 7, 2) := by decide +kernel
theorem dX7_bestNow_95 : decode cX7_bestNow 95 = .ok (.dload_n 3, 1) := by decide +kernel
theorem dX7_bestNow_96 : decode cX7_bestNow 96 = .ok (.dcmp .l, 1) := by decide +kernel
theorem dX7_bestNow_97 : decode cX7_bestNow 97 = .ok (.ifCond .lt 6, 3) := by decide +kernel
theorem dX7_bestNow_100 : decode cX7_bestNow 100 = .ok (.goto 9, 3) := by decide +kernel
theorem dX7_bestNow_103 : decode cX7_bestNow 103 = .ok (.iload 5, 2) := by decide +kernel
theorem dX7_bestNow_105 : decode cX7_bestNow 105 = .ok (.istore_n 2, 1) := by decide +kernel
theorem dX7_bestNow_106 : decode cX7_bestNow 106 = .ok (.dload 7, 2) := by decide +kernel
theorem dX7_bestNow_108 : decode cX7_bestNow 108 = .ok (.dstore_n 3, 1) := by decide +kernel
theorem dX7_bestNow_109 : decode cX7_bestNow 109 = .ok (.iinc 5 1, 3) := by decide +kernel
theorem dX7_bestNow_112 : decode cX7_bestNow 112 = .ok (.goto (-105), 3) := by decide +kernel
theorem dX7_bestNow_115 : decode cX7_bestNow 115 = .ok (.iload_n 2, 1) := by decide +kernel
theorem dX7_bestNow_116 : decode cX7_bestNow 116 = .ok (.ireturn, 1) := by decide +kernel
set_option maxRecDepth 20000 in
theorem ggX7_best_X7_in : GoodIn wsX7_best wsX7_in := goodIn_r _ [5] (by decide +kernel) (by decide +kernel)
set_option maxRecDepth 20000 in
theorem gX7_best_X7_in : GoodIn wsX7_best (va_wsS RX7 48 yX7_in wsX7_in) := goodIn_app (goodIn_of _ (by decide +kernel)) ggX7_best_X7_in
set_option maxRecDepth 20000 in
theorem ggX7_best_X7_no : GoodIn wsX7_best wsX7_no := goodIn_r _ [9, 1, 162, 163, 164, 165, 166, 167, 168] (by decide +kernel) (by decide +kernel)
set_option maxRecDepth 20000 in
theorem gX7_best_X7_no : GoodIn wsX7_best (wsV RX7 52 RX7 yX7_no wsX7_no) := goodIn_app (goodIn_of _ (by decide +kernel)) ggX7_best_X7_no
set_option maxRecDepth 20000 in
theorem ggX7_best_X7_bestNow : GoodIn wsX7_best wsX7_bestNow := goodIn_r _ [13, 14, 15, 16, 17, 18, 19, 20, 21, 22, 23, 24, 25, 26, 27, 28, 29, 30, 31, 32, 33, 34, 35, 36, 37, 38, 39, 40, 41, 42, 43, 44, 45, 46, 47, 48, 49, 50, 51, 52, 53, 54, 55, 56, 57, 58, 59, 60, 61, 62, 63, 64, 65, 66, 67, 68, 69, 70, 71, 72, 73, 74, 75, 76, 77, 78, 79, 80, 81, 82, 83, 84, 85, 86, 87, 88, 89, 90, 91, 92, 93, 94, 95, 96, 97, 98, 99, 100, 101, 102, 103, 104, 105, 106, 107, 108, 109, 110, 111, 112, 113, 114, 115, 116, 117, 118, 119, 120, 121, 122, 123, 124, 125, 126, 127, 128, 129, 130, 131, 132, 133, 134, 135, 136, 137, 138, 139, 140, 141, 142, 143, 144, 145, 146, 147, 148, 149, 150, 151, 152, 153, 154, 155, 156, 157, 3, 4, 5, 158, 159, 160, 161, 162, 163, 164, 165, 166, 167, 168, 169, 170, 171, 172, 173, 174, 175, 176, 177, 178, 179, 180, 181, 182, 183, 184, 185, 186, 187, 188, 189, 190, 191] (by decide +kernel) (by decide +kernel)
set_option maxRecDepth 20000 in
theorem gX7_best_X7_bestNow : GoodIn wsX7_best (wsV RX7 215 RX7 yX7_bestNow wsX7_bestNow) := goodIn_app (goodIn_of _ (by decide +kernel)) ggX7_best_X7_bestNow
theorem dX7_best_0 : decode cX7_best 0 = .ok (.aload_n 0, 1) := by decide +kernel
theorem dX7_best_1 : decode cX7_best 1 = .ok (.iconst 0, 1) := by decide +kernel
theorem dX7_best_2 : decode cX7_best 2 = .ok (.putfield 25, 3) := by decide +kernel
theorem dX7_best_5 : decode cX7_best 5 = .ok (.iload_n 1, 1) := by decide +kernel
theorem dX7_best_6 : decode cX7_best 6 = .ok (.iconst 1, 1) := by decide +kernel
theorem dX7_best_7 : decode cX7_best 7 = .ok (.bipush 48, 2) := by decide +kernel
theorem dX7_best_9 : decode cX7_best 9 = .ok (.invokestatic 48, 3) := by decide +kernel
theorem dX7_best_12 : decode cX7_best 12 = .ok (.ifCond .ne 9, 3) := by decide +kernel
theorem dX7_best_15 : decode cX7_best 15 = .ok (.aload_n 0, 1) := by decide +kernel
theorem dX7_best_16 : decode cX7_best 16 = .ok (.iconst 1, 1) := by decide +kernel
theorem dX7_best_17 : decode cX7_best 17 = .ok (.invokevirtual 52, 3) := by decide +kernel
theorem dX7_best_20 : decode cX7_best 20 = .ok (.ireturn, 1) := by decide +kernel
theorem dX7_best_21 : decode cX7_best 21 = .ok (.aload_n 0, 1) := by decide +kernel
theorem dX7_best_22 : decode cX7_best 22 = .ok (.iload_n 1, 1) := by decide +kernel
theorem dX7_best_23 : decode cX7_best 23 = .ok (.invokevirtual 215, 3) := by decide +kernel
theorem dX7_best_26 : decode cX7_best 26 = .ok (.ireturn, 1) := by decide +kernel
set_option maxRecDepth 20000 in
theorem ggX7_digest_X7_manyNow : GoodIn wsX7_digest wsX7_manyNow := goodIn_r _ [17, 5, 18, 19, 20, 21, 22, 9, 11, 23, 24, 25, 26, 27, 28, 29, 30, 31, 32, 33, 34, 35, 36, 37, 38, 39, 40, 41, 42, 43, 44, 45, 46, 47, 48, 49, 50, 51, 52, 53, 16, 54, 55, 56, 57, 58, 59, 60, 61, 62, 63, 64, 65, 66, 67, 68, 69, 70, 71, 72, 73, 74, 75, 76, 77, 78, 79, 215, 216, 217, 218, 219, 220, 221, 222, 223, 224, 225, 226, 227, 228, 229, 230, 231, 232, 233, 234, 235, 236, 237, 238, 239, 240, 241, 242, 243, 244] (by decide +kernel) (by decide +kernel)
set_option maxRecDepth 20000 in
theorem gX7_digest_X7_manyNow : GoodIn wsX7_digest (wsV RX7 192 RX7 yX7_manyNow wsX7_manyNow) := goodIn_app (goodIn_of _ (by decide +kernel)) ggX7_digest_X7_manyNow
set_option maxRecDepth 20000 in
theorem ggX7_digest_X7_pairNow : GoodIn wsX7_digest wsX7_pairNow := goodIn_r _ [83, 5, 84, 85, 18, 215, 216, 217, 218, 219, 220, 221, 222, 223, 224, 225, 226, 227, 228, 229, 230, 231, 232, 233, 234, 235, 236, 237, 238, 239, 240, 241] (by decide +kernel) (by decide +kernel)
set_option maxRecDepth 20000 in
theorem gX7_digest_X7_pairNow : GoodIn wsX7_digest (wsV RX7 177 RX7 yX7_pairNow wsX7_pairNow) := goodIn_app (goodIn_of _ (by decide +kernel)) ggX7_digest_X7_pairNow
set_option maxRecDepth 20000 in
theorem ggX7_digest_Jx4a65c_size_8abf5 : GoodIn wsX7_digest wsJx4a65c_size_8abf5 := goodIn_r _ [49, 50, 242, 243, 244] (by decide +kernel) (by decide +kernel)
set_option maxRecDepth 20000 in
theorem gX7_digest_Jx4a65c_size_8abf5_f29Jx4a65c : GoodIn wsX7_digest (va_wsF RX7 29 RJx4a65c ⟨"java/util/List", "size", "()I"⟩ yJx4a65c_size_8abf5 wsJx4a65c_size_8abf5) := goodIn_app (goodIn_of _ (by decide +kernel)) ggX7_digest_Jx4a65c_size_8abf5
set_option maxRecDepth 20000 in
theorem ggX7_digest_X7_lotNow : GoodIn wsX7_digest wsX7_lotNow := goodIn_r _ [89, 5, 11, 55, 90, 91, 92, 30, 93, 94, 95, 56, 57, 58, 48, 59, 50, 60, 61, 62, 63, 64, 65, 66, 67, 68, 69, 70, 71, 72, 215, 216, 217, 218, 219, 220, 221, 222, 223, 224, 225, 226, 227, 228, 229, 230, 231, 232, 233, 234, 235, 236, 237, 238, 239, 240, 241, 242, 243, 244] (by decide +kernel) (by decide +kernel)
set_option maxRecDepth 20000 in
theorem gX7_digest_X7_lotNow : GoodIn wsX7_digest (wsV RX7 183 RX7 yX7_lotNow wsX7_lotNow) := goodIn_app (goodIn_of _ (by decide +kernel)) ggX7_digest_X7_lotNow
set_option maxRecDepth 20000 in
theorem ggX7_digest_X7_doneNow : GoodIn wsX7_digest wsX7_doneNow := goodIn_r _ [99, 11, 55, 5, 100, 56, 57, 58, 48, 59, 50, 60, 61, 62, 63, 64, 65, 66, 67, 68, 69, 70, 71, 72, 101, 102, 103, 30, 104, 105, 106, 107, 77, 32, 108, 109, 110, 111, 112, 113, 78, 79, 94, 114, 115, 116, 117, 118, 95, 119, 120, 121, 122, 123, 124, 125, 126, 127, 128, 19, 129, 130, 131, 132, 133, 134, 135, 136, 137, 138, 139, 140, 141, 142, 143, 144, 145, 146, 147, 148, 149, 150, 151, 152, 153, 154, 155, 156, 34, 35, 36, 37, 38, 39, 40, 41, 42, 43, 44, 28, 29, 31, 157, 158, 159, 160, 161, 162, 163, 164, 165, 166, 167, 168, 169, 170, 171, 172, 173, 174, 175, 176, 177, 178, 179, 180, 181, 182, 183, 184, 185, 186, 74, 75, 76, 187, 188, 189, 190, 191, 192, 193, 194, 195, 196, 197, 198, 16, 199, 215, 216, 217, 218, 219, 220, 221, 222, 223, 224, 225, 226, 227, 228, 229, 230, 231, 232, 233, 234, 235, 236, 237, 238, 239, 240, 241, 242, 243, 244] (by decide +kernel) (by decide +kernel)
set_option maxRecDepth 20000 in
theorem gX7_digest_X7_doneNow : GoodIn wsX7_digest (wsV RX7 212 RX7 yX7_doneNow wsX7_doneNow) := goodIn_app (goodIn_of _ (by decide +kernel)) ggX7_digest_X7_doneNow
set_option maxRecDepth 20000 in
theorem ggX7_digest_X7_ownerNow : GoodIn wsX7_digest wsX7_ownerNow := goodIn_r _ [203, 11, 55, 45, 46, 47, 48, 49, 50, 56, 57, 58, 59, 60, 61, 62, 63, 64, 65, 66, 67, 68, 69, 70, 71, 72, 215, 216, 217, 218, 219, 220, 221, 242, 243, 244] (by decide +kernel) (by decide +kernel)
set_option maxRecDepth 20000 in
theorem gX7_digest_X7_ownerNow : GoodIn wsX7_digest (wsV RX7 195 RX7 yX7_ownerNow wsX7_ownerNow) := goodIn_app (goodIn_of _ (by decide +kernel)) ggX7_digest_X7_ownerNow
set_option maxRecDepth 20000 in
theorem ggX7_digest_X7_highNow : GoodIn wsX7_digest wsX7_highNow := goodIn_r _ [207, 5, 20, 208, 209, 210, 215, 216, 217, 218, 219, 220, 221, 222, 223, 224, 225, 226, 227, 228, 229, 230, 231, 232, 233, 234, 235, 236, 237, 238, 239, 240, 241] (by decide +kernel) (by decide +kernel)
set_option maxRecDepth 20000 in
theorem gX7_digest_X7_highNow : GoodIn wsX7_digest (wsV RX7 205 RX7 yX7_highNow wsX7_highNow) := goodIn_app (goodIn_of _ (by decide +kernel)) ggX7_digest_X7_highNow
set_option maxRecDepth 20000 in
theorem ggX7_digest_X7_bestNow : GoodIn wsX7_digest wsX7_bestNow := goodIn_r _ [214, 5, 22, 11, 12, 101, 102, 103, 30, 104, 105, 106, 107, 77, 32, 108, 109, 110, 111, 112, 113, 78, 79, 94, 114, 115, 116, 117, 118, 95, 119, 120, 121, 122, 123, 124, 125, 126, 127, 128, 19, 129, 130, 131, 132, 133, 134, 135, 136, 137, 138, 139, 140, 141, 142, 143, 144, 145, 146, 147, 148, 149, 150, 151, 152, 153, 154, 155, 156, 34, 35, 36, 37, 38, 39, 40, 41, 42, 43, 44, 28, 29, 31, 157, 158, 159, 160, 161, 162, 163, 164, 165, 166, 167, 168, 169, 170, 171, 172, 173, 174, 175, 176, 177, 178, 179, 180, 181, 182, 183, 184, 185, 186, 74, 75, 76, 187, 188, 189, 190, 191, 192, 193, 194, 57, 58, 48, 59, 50, 60, 61, 62, 63, 64, 65, 66, 67, 68, 69, 70, 71, 72, 195, 196, 197, 198, 16, 199, 45, 46, 47, 49, 215, 216, 217, 218, 219, 220, 221, 222, 223, 224, 225, 226, 227, 228, 229, 230, 231, 232, 233, 234, 235, 236, 237, 238, 239, 240, 241, 242, 243, 244] (by decide +kernel) (by decide +kernel)
set_option maxRecDepth 20000 in
theorem gX7_digest_X7_bestNow : GoodIn wsX7_digest (wsV RX7 215 RX7 yX7_bestNow wsX7_bestNow) := goodIn_app (goodIn_of _ (by decide +kernel)) ggX7_digest_X7_bestNow
theorem dX7_digest_0 : decode cX7_digest 0 = .ok (.aload_n 0, 1) := by decide +kernel
theorem dX7_digest_1 : decode cX7_digest 1 = .ok (.iconst 0, 1) := by decide +kernel
theorem dX7_digest_2 : decode cX7_digest 2 = .ok (.putfield 25, 3) := by decide +kernel
theorem dX7_digest_5 : decode cX7_digest 5 = .ok (.ldc2_w 218, 3) := by decide +kernel
theorem dX7_digest_8 : decode cX7_digest 8 = .ok (.lstore_n 1, 1) := by decide +kernel
theorem dX7_digest_9 : decode cX7_digest 9 = .ok (.iconst 0, 1) := by decide +kernel
theorem dX7_digest_10 : decode cX7_digest 10 = .ok (.istore_n 3, 1) := by decide +kernel
theorem dX7_digest_11 : decode cX7_digest 11 = .ok (.iload_n 3, 1) := by decide +kernel
theorem dX7_digest_12 : decode cX7_digest 12 = .ok (.bipush 16, 2) := by decide +kernel
theorem dX7_digest_14 : decode cX7_digest 14 = .ok (.if_icmp .gt 22, 3) := by decide +kernel
theorem dX7_digest_17 : decode cX7_digest 17 = .ok (.lload_n 1, 1) := by decide +kernel
theorem dX7_digest_18 : decode cX7_digest 18 = .ok (.ldc2_w 220, 3) := by decide +kernel
theorem dX7_digest_21 : decode cX7_digest 21 = .ok (.lmul, 1) := by decide +kernel
theorem dX7_digest_22 : decode cX7_digest 22 = .ok (.aload_n 0, 1) := by decide +kernel
theorem dX7_digest_23 : decode cX7_digest 23 = .ok (.iload_n 3, 1) := by decide +kernel
theorem dX7_digest_24 : decode cX7_digest 24 = .ok (.invokevirtual 192, 3) := by decide +kernel
theorem dX7_digest_27 : decode cX7_digest 27 = .ok (.i2l, 1) := by decide +kernel
theorem dX7_digest_28 : decode cX7_digest 28 = .ok (.ladd, 1) := by decide +kernel
theorem dX7_digest_29 : decode cX7_digest 29 = .ok (.lstore_n 1, 1) := by decide +kernel
theorem dX7_digest_30 : decode cX7_digest 30 = .ok (.iinc 3 1, 3) := by decide +kernel
theorem dX7_digest_33 : decode cX7_digest 33 = .ok (.goto (-22), 3) := by decide +kernel
theorem dX7_digest_36 : decode cX7_digest 36 = .ok (.lload_n 1, 1) := by decide +kernel
theorem dX7_digest_37 : decode cX7_digest 37 = .ok (.ldc2_w 220, 3) := by decide +kernel
theorem dX7_digest_40 : decode cX7_digest 40 = .ok (.lmul, 1) := by decide +kernel
theorem dX7_digest_41 : decode cX7_digest 41 = .ok (.ldc2_w 222, 3) := by decide +kernel
theorem dX7_digest_44 : decode cX7_digest 44 = .ok (.aload_n 0, 1) := by decide +kernel
theorem dX7_digest_45 : decode cX7_digest 45 = .ok (.getfield 12, 3) := by decide +kernel
theorem dX7_digest_48 : decode cX7_digest 48 = .ok (.getfield 154, 3) := by decide +kernel
theorem dX7_digest_51 : decode cX7_digest 51 = .ok (.dmul, 1) := by decide +kernel
theorem dX7_digest_52 : decode cX7_digest 52 = .ok (.d2l, 1) := by decide +kernel
theorem dX7_digest_53 : decode cX7_digest 53 = .ok (.ladd, 1) := by decide +kernel
theorem dX7_digest_54 : decode cX7_digest 54 = .ok (.lstore_n 1, 1) := by decide +kernel
theorem dX7_digest_55 : decode cX7_digest 55 = .ok (.lload_n 1, 1) := by decide +kernel
theorem dX7_digest_56 : decode cX7_digest 56 = .ok (.ldc2_w 220, 3) := by decide +kernel
theorem dX7_digest_59 : decode cX7_digest 59 = .ok (.lmul, 1) := by decide +kernel
theorem dX7_digest_60 : decode cX7_digest 60 = .ok (.ldc2_w 222, 3) := by decide +kernel
theorem dX7_digest_63 : decode cX7_digest 63 = .ok (.aload_n 0, 1) := by decide +kernel
theorem dX7_digest_64 : decode cX7_digest 64 = .ok (.getfield 12, 3) := by decide +kernel
theorem dX7_digest_67 : decode cX7_digest 67 = .ok (.getfield 157, 3) := by decide +kernel
theorem dX7_digest_70 : decode cX7_digest 70 = .ok (.f2d, 1) := by decide +kernel
theorem dX7_digest_71 : decode cX7_digest 71 = .ok (.dmul, 1) := by decide +kernel
theorem dX7_digest_72 : decode cX7_digest 72 = .ok (.d2l, 1) := by decide +kernel
theorem dX7_digest_73 : decode cX7_digest 73 = .ok (.ladd, 1) := by decide +kernel
theorem dX7_digest_74 : decode cX7_digest 74 = .ok (.lstore_n 1, 1) := by decide +kernel
theorem dX7_digest_75 : decode cX7_digest 75 = .ok (.lload_n 1, 1) := by decide +kernel
theorem dX7_digest_76 : decode cX7_digest 76 = .ok (.ldc2_w 220, 3) := by decide +kernel
theorem dX7_digest_79 : decode cX7_digest 79 = .ok (.lmul, 1) := by decide +kernel
theorem dX7_digest_80 : decode cX7_digest 80 = .ok (.ldc2_w 222, 3) := by decide +kernel
theorem dX7_digest_83 : decode cX7_digest 83 = .ok (.aload_n 0, 1) := by decide +kernel
theorem dX7_digest_84 : decode cX7_digest 84 = .ok (.getfield 137, 3) := by decide +kernel
theorem dX7_digest_87 : decode cX7_digest 87 = .ok (.dmul, 1) := by decide +kernel
theorem dX7_digest_88 : decode cX7_digest 88 = .ok (.d2l, 1) := by decide +kernel
theorem dX7_digest_89 : decode cX7_digest 89 = .ok (.ladd, 1) := by decide +kernel
theorem dX7_digest_90 : decode cX7_digest 90 = .ok (.lstore_n 1, 1) := by decide +kernel
theorem dX7_digest_91 : decode cX7_digest 91 = .ok (.iconst 0, 1) := by decide +kernel
theorem dX7_digest_92 : decode cX7_digest 92 = .ok (.istore_n 3, 1) := by decide +kernel
theorem dX7_digest_93 : decode cX7_digest 93 = .ok (.iload_n 3, 1) := by decide +kernel
theorem dX7_digest_94 : decode cX7_digest 94 = .ok (.aload_n 0, 1) := by decide +kernel
theorem dX7_digest_95 : decode cX7_digest 95 = .ok (.getfield 12, 3) := by decide +kernel
theorem dX7_digest_98 : decode cX7_digest 98 = .ok (.getfield 45, 3) := by decide +kernel
theorem dX7_digest_101 : decode cX7_digest 101 = .ok (.if_icmp .ge 61, 3) := by decide +kernel
theorem dX7_digest_104 : decode cX7_digest 104 = .ok (.iconst 0, 1) := by decide +kernel
theorem dX7_digest_105 : decode cX7_digest 105 = .ok (.istore 4, 2) := by decide +kernel
theorem dX7_digest_107 : decode cX7_digest 107 = .ok (.iload 4, 2) := by decide +kernel
theorem dX7_digest_109 : decode cX7_digest 109 = .ok (.iconst 2, 1) := by decide +kernel
theorem dX7_digest_110 : decode cX7_digest 110 = .ok (.if_icmp .gt 24, 3) := by decide +kernel
theorem dX7_digest_113 : decode cX7_digest 113 = .ok (.lload_n 1, 1) := by decide +kernel
theorem dX7_digest_114 : decode cX7_digest 114 = .ok (.ldc2_w 220, 3) := by decide +kernel
theorem dX7_digest_117 : decode cX7_digest 117 = .ok (.lmul, 1) := by decide +kernel
theorem dX7_digest_118 : decode cX7_digest 118 = .ok (.aload_n 0, 1) := by decide +kernel
theorem dX7_digest_119 : decode cX7_digest 119 = .ok (.iload_n 3, 1) := by decide +kernel
theorem dX7_digest_120 : decode cX7_digest 120 = .ok (.iload 4, 2) := by decide +kernel
theorem dX7_digest_122 : decode cX7_digest 122 = .ok (.invokevirtual 177, 3) := by decide +kernel
theorem dX7_digest_125 : decode cX7_digest 125 = .ok (.i2l, 1) := by decide +kernel
theorem dX7_digest_126 : decode cX7_digest 126 = .ok (.ladd, 1) := by decide +kernel
theorem dX7_digest_127 : decode cX7_digest 127 = .ok (.lstore_n 1, 1) := by decide +kernel
theorem dX7_digest_128 : decode cX7_digest 128 = .ok (.iinc 4 1, 3) := by decide +kernel
theorem dX7_digest_131 : decode cX7_digest 131 = .ok (.goto (-24), 3) := by decide +kernel
theorem dX7_digest_134 : decode cX7_digest 134 = .ok (.lload_n 1, 1) := by decide +kernel
theorem dX7_digest_135 : decode cX7_digest 135 = .ok (.ldc2_w 220, 3) := by decide +kernel
theorem dX7_digest_138 : decode cX7_digest 138 = .ok (.lmul, 1) := by decide +kernel
theorem dX7_digest_139 : decode cX7_digest 139 = .ok (.ldc2_w 222, 3) := by decide +kernel
theorem dX7_digest_142 : decode cX7_digest 142 = .ok (.aload_n 0, 1) := by decide +kernel
theorem dX7_digest_143 : decode cX7_digest 143 = .ok (.getfield 12, 3) := by decide +kernel
theorem dX7_digest_146 : decode cX7_digest 146 = .ok (.getfield 127, 3) := by decide +kernel
theorem dX7_digest_149 : decode cX7_digest 149 = .ok (.iload_n 3, 1) := by decide +kernel
theorem dX7_digest_150 : decode cX7_digest 150 = .ok (.faload, 1) := by decide +kernel
theorem dX7_digest_151 : decode cX7_digest 151 = .ok (.f2d, 1) := by decide +kernel
theorem dX7_digest_152 : decode cX7_digest 152 = .ok (.dmul, 1) := by decide +kernel
theorem dX7_digest_153 : decode cX7_digest 153 = .ok (.d2l, 1) := by decide +kernel
theorem dX7_digest_154 : decode cX7_digest 154 = .ok (.ladd, 1) := by decide +kernel
theorem dX7_digest_155 : decode cX7_digest 155 = .ok (.lstore_n 1, 1) := by decide +kernel
theorem dX7_digest_156 : decode cX7_digest 156 = .ok (.iinc 3 1, 3) := by decide +kernel
theorem dX7_digest_159 : decode cX7_digest 159 = .ok (.goto (-66), 3) := by decide +kernel
theorem dX7_digest_162 : decode cX7_digest 162 = .ok (.iconst 0, 1) := by decide +kernel
theorem dX7_digest_163 : decode cX7_digest 163 = .ok (.istore_n 3, 1) := by decide +kernel
theorem dX7_digest_164 : decode cX7_digest 164 = .ok (.iload_n 3, 1) := by decide +kernel
theorem dX7_digest_165 : decode cX7_digest 165 = .ok (.aload_n 0, 1) := by decide +kernel
theorem dX7_digest_166 : decode cX7_digest 166 = .ok (.getfield 21, 3) := by decide +kernel
theorem dX7_digest_169 : decode cX7_digest 169 = .ok (.invokeinterface 29 1, 5) := by decide +kernel
theorem dX7_digest_174 : decode cX7_digest 174 = .ok (.if_icmp .ge 73, 3) := by decide +kernel
theorem dX7_digest_177 : decode cX7_digest 177 = .ok (.iconst 0, 1) := by decide +kernel
theorem dX7_digest_178 : decode cX7_digest 178 = .ok (.istore 4, 2) := by decide +kernel
theorem dX7_digest_180 : decode cX7_digest 180 = .ok (.iload 4, 2) := by decide +kernel
theorem dX7_digest_182 : decode cX7_digest 182 = .ok (.iconst 5, 1) := by decide +kernel
theorem dX7_digest_183 : decode cX7_digest 183 = .ok (.if_icmp .gt 24, 3) := by decide +kernel
theorem dX7_digest_186 : decode cX7_digest 186 = .ok (.lload_n 1, 1) := by decide +kernel
theorem dX7_digest_187 : decode cX7_digest 187 = .ok (.ldc2_w 220, 3) := by decide +kernel
theorem dX7_digest_190 : decode cX7_digest 190 = .ok (.lmul, 1) := by decide +kernel
theorem dX7_digest_191 : decode cX7_digest 191 = .ok (.aload_n 0, 1) := by decide +kernel
theorem dX7_digest_192 : decode cX7_digest 192 = .ok (.iload_n 3, 1) := by decide +kernel
theorem dX7_digest_193 : decode cX7_digest 193 = .ok (.iload 4, 2) := by decide +kernel
theorem dX7_digest_195 : decode cX7_digest 195 = .ok (.invokevirtual 183, 3) := by decide +kernel
theorem dX7_digest_198 : decode cX7_digest 198 = .ok (.i2l, 1) := by decide +kernel
theorem dX7_digest_199 : decode cX7_digest 199 = .ok (.ladd, 1) := by decide +kernel
theorem dX7_digest_200 : decode cX7_digest 200 = .ok (.lstore_n 1, 1) := by decide +kernel
theorem dX7_digest_201 : decode cX7_digest 201 = .ok (.iinc 4 1, 3) := by decide +kernel
theorem dX7_digest_204 : decode cX7_digest 204 = .ok (.goto (-24), 3) := by decide +kernel
theorem dX7_digest_207 : decode cX7_digest 207 = .ok (.lload_n 1, 1) := by decide +kernel
theorem dX7_digest_208 : decode cX7_digest 208 = .ok (.ldc2_w 220, 3) := by decide +kernel
theorem dX7_digest_211 : decode cX7_digest 211 = .ok (.lmul, 1) := by decide +kernel
theorem dX7_digest_212 : decode cX7_digest 212 = .ok (.ldc2_w 222, 3) := by decide +kernel
theorem dX7_digest_215 : decode cX7_digest 215 = .ok (.aload_n 0, 1) := by decide +kernel
theorem dX7_digest_216 : decode cX7_digest 216 = .ok (.getfield 12, 3) := by decide +kernel
theorem dX7_digest_219 : decode cX7_digest 219 = .ok (.getfield 104, 3) := by decide +kernel
theorem dX7_digest_222 : decode cX7_digest 222 = .ok (.iload_n 3, 1) := by decide +kernel
theorem dX7_digest_223 : decode cX7_digest 223 = .ok (.daload, 1) := by decide +kernel
theorem dX7_digest_224 : decode cX7_digest 224 = .ok (.dmul, 1) := by decide +kernel
theorem dX7_digest_225 : decode cX7_digest 225 = .ok (.d2l, 1) := by decide +kernel
theorem dX7_digest_226 : decode cX7_digest 226 = .ok (.ladd, 1) := by decide +kernel
theorem dX7_digest_227 : decode cX7_digest 227 = .ok (.lstore_n 1, 1) := by decide +kernel
theorem dX7_digest_228 : decode cX7_digest 228 = .ok (.lload_n 1, 1) := by decide +kernel
theorem dX7_digest_229 : decode cX7_digest 229 = .ok (.ldc2_w 220, 3) := by decide +kernel
theorem dX7_digest_232 : decode cX7_digest 232 = .ok (.lmul, 1) := by decide +kernel
theorem dX7_digest_233 : decode cX7_digest 233 = .ok (.aload_n 0, 1) := by decide +kernel
theorem dX7_digest_234 : decode cX7_digest 234 = .ok (.iload_n 3, 1) := by decide +kernel
theorem dX7_digest_235 : decode cX7_digest 235 = .ok (.invokevirtual 212, 3) := by decide +kernel
theorem dX7_digest_238 : decode cX7_digest 238 = .ok (.i2l, 1) := by decide +kernel
theorem dX7_digest_239 : decode cX7_digest 239 = .ok (.ladd, 1) := by decide +kernel
theorem dX7_digest_240 : decode cX7_digest 240 = .ok (.lstore_n 1, 1) := by decide +kernel
theorem dX7_digest_241 : decode cX7_digest 241 = .ok (.iinc 3 1, 3) := by decide +kernel
theorem dX7_digest_244 : decode cX7_digest 244 = .ok (.goto (-80), 3) := by decide +kernel
theorem dX7_digest_247 : decode cX7_digest 247 = .ok (.iconst 0, 1) := by decide +kernel
theorem dX7_digest_248 : decode cX7_digest 248 = .ok (.istore_n 3, 1) := by decide +kernel
theorem dX7_digest_249 : decode cX7_digest 249 = .ok (.iload_n 3, 1) := by decide +kernel
theorem dX7_digest_250 : decode cX7_digest 250 = .ok (.iconst 4, 1) := by decide +kernel
theorem dX7_digest_251 : decode cX7_digest 251 = .ok (.if_icmp .ge 23, 3) := by decide +kernel
theorem dX7_digest_254 : decode cX7_digest 254 = .ok (.lload_n 1, 1) := by decide +kernel
theorem dX7_digest_255 : decode cX7_digest 255 = .ok (.ldc2_w 220, 3) := by decide +kernel
theorem dX7_digest_258 : decode cX7_digest 258 = .ok (.lmul, 1) := by decide +kernel
theorem dX7_digest_259 : decode cX7_digest 259 = .ok (.aload_n 0, 1) := by decide +kernel
theorem dX7_digest_260 : decode cX7_digest 260 = .ok (.iload_n 3, 1) := by decide +kernel
theorem dX7_digest_261 : decode cX7_digest 261 = .ok (.iconst 0, 1) := by decide +kernel
theorem dX7_digest_262 : decode cX7_digest 262 = .ok (.invokevirtual 195, 3) := by decide +kernel
theorem dX7_digest_265 : decode cX7_digest 265 = .ok (.i2l, 1) := by decide +kernel
theorem dX7_digest_266 : decode cX7_digest 266 = .ok (.ladd, 1) := by decide +kernel
theorem dX7_digest_267 : decode cX7_digest 267 = .ok (.lstore_n 1, 1) := by decide +kernel
theorem dX7_digest_268 : decode cX7_digest 268 = .ok (.iinc 3 1, 3) := by decide +kernel
theorem dX7_digest_271 : decode cX7_digest 271 = .ok (.goto (-22), 3) := by decide +kernel
theorem dX7_digest_274 : decode cX7_digest 274 = .ok (.lload_n 1, 1) := by decide +kernel
theorem dX7_digest_275 : decode cX7_digest 275 = .ok (.ldc2_w 220, 3) := by decide +kernel
theorem dX7_digest_278 : decode cX7_digest 278 = .ok (.lmul, 1) := by decide +kernel
theorem dX7_digest_279 : decode cX7_digest 279 = .ok (.aload_n 0, 1) := by decide +kernel
theorem dX7_digest_280 : decode cX7_digest 280 = .ok (.invokevirtual 205, 3) := by decide +kernel
theorem dX7_digest_283 : decode cX7_digest 283 = .ok (.i2l, 1) := by decide +kernel
theorem dX7_digest_284 : decode cX7_digest 284 = .ok (.ladd, 1) := by decide +kernel
theorem dX7_digest_285 : decode cX7_digest 285 = .ok (.lstore_n 1, 1) := by decide +kernel
theorem dX7_digest_286 : decode cX7_digest 286 = .ok (.lload_n 1, 1) := by decide +kernel
theorem dX7_digest_287 : decode cX7_digest 287 = .ok (.ldc2_w 220, 3) := by decide +kernel
theorem dX7_digest_290 : decode cX7_digest 290 = .ok (.lmul, 1) := by decide +kernel
theorem dX7_digest_291 : decode cX7_digest 291 = .ok (.aload_n 0, 1) := by decide +kernel
theorem dX7_digest_292 : decode cX7_digest 292 = .ok (.bipush 24, 2) := by decide +kernel
theorem dX7_digest_294 : decode cX7_digest 294 = .ok (.invokevirtual 215, 3) := by decide +kernel
theorem dX7_digest_297 : decode cX7_digest 297 = .ok (.i2l, 1) := by decide +kernel
theorem dX7_digest_298 : decode cX7_digest 298 = .ok (.ladd, 1) := by decide +kernel
theorem dX7_digest_299 : decode cX7_digest 299 = .ok (.lreturn, 1) := by decide +kernel
set_option maxRecDepth 20000 in
theorem ggJ9_ceil_294c1_Jxfc994_ceil_294c1 : GoodIn wsJ9_ceil_294c1 wsJxfc994_ceil_294c1 := goodIn_r _ [4, 5, 6, 7, 3, 8, 9, 10, 11, 12, 13, 14, 15, 16, 17, 18, 19, 20, 21, 22, 23, 24, 25] (by decide +kernel) (by decide +kernel)
set_option maxRecDepth 20000 in
theorem gJ9_ceil_294c1_Jxfc994_ceil_294c1 : GoodIn wsJ9_ceil_294c1 (va_wsS RJ9 53 yJxfc994_ceil_294c1 wsJxfc994_ceil_294c1) := goodIn_app (goodIn_of _ (by decide +kernel)) ggJ9_ceil_294c1_Jxfc994_ceil_294c1
theorem dJ9_ceil_294c1_0 : decode cJ9_ceil_294c1 0 = .ok (.dload_n 0, 1) := by decide +kernel
theorem dJ9_ceil_294c1_1 : decode cJ9_ceil_294c1 1 = .ok (.invokestatic 53, 3) := by decide +kernel
theorem dJ9_ceil_294c1_4 : decode cJ9_ceil_294c1 4 = .ok (.dreturn, 1) := by decide +kernel
theorem dJ9_abs_0f7a4_0 : decode cJ9_abs_0f7a4 0 = .ok (.iload_n 0, 1) := by decide +kernel
theorem dJ9_abs_0f7a4_1 : decode cJ9_abs_0f7a4 1 = .ok (.ifCond .ge 8, 3) := by decide +kernel
theorem dJ9_abs_0f7a4_4 : decode cJ9_abs_0f7a4 4 = .ok (.iload_n 0, 1) := by decide +kernel
theorem dJ9_abs_0f7a4_5 : decode cJ9_abs_0f7a4 5 = .ok (.ineg, 1) := by decide +kernel
theorem dJ9_abs_0f7a4_6 : decode cJ9_abs_0f7a4 6 = .ok (.goto 4, 3) := by decide +kernel
theorem dJ9_abs_0f7a4_9 : decode cJ9_abs_0f7a4 9 = .ok (.iload_n 0, 1) := by decide +kernel
theorem dJ9_abs_0f7a4_10 : decode cJ9_abs_0f7a4 10 = .ok (.ireturn, 1) := by decide +kernel
theorem dJ9_max_7cf53_0 : decode cJ9_max_7cf53 0 = .ok (.iload_n 0, 1) := by decide +kernel
theorem dJ9_max_7cf53_1 : decode cJ9_max_7cf53 1 = .ok (.iload_n 1, 1) := by decide +kernel
theorem dJ9_max_7cf53_2 : decode cJ9_max_7cf53 2 = .ok (.if_icmp .lt 7, 3) := by decide +kernel
theorem dJ9_max_7cf53_5 : decode cJ9_max_7cf53 5 = .ok (.iload_n 0, 1) := by decide +kernel
theorem dJ9_max_7cf53_6 : decode cJ9_max_7cf53 6 = .ok (.goto 4, 3) := by decide +kernel
theorem dJ9_max_7cf53_9 : decode cJ9_max_7cf53 9 = .ok (.iload_n 1, 1) := by decide +kernel
theorem dJ9_max_7cf53_10 : decode cJ9_max_7cf53 10 = .ok (.ireturn, 1) := by decide +kernel
theorem dJ9_max_e70c8_0 : decode cJ9_max_e70c8 0 = .ok (.fload_n 0, 1) := by decide +kernel
theorem dJ9_max_e70c8_1 : decode cJ9_max_e70c8 1 = .ok (.fload_n 0, 1) := by decide +kernel
theorem dJ9_max_e70c8_2 : decode cJ9_max_e70c8 2 = .ok (.fcmp .l, 1) := by decide +kernel
theorem dJ9_max_e70c8_3 : decode cJ9_max_e70c8 3 = .ok (.ifCond .eq 5, 3) := by decide +kernel
theorem dJ9_max_e70c8_6 : decode cJ9_max_e70c8 6 = .ok (.fload_n 0, 1) := by decide +kernel
theorem dJ9_max_e70c8_7 : decode cJ9_max_e70c8 7 = .ok (.freturn, 1) := by decide +kernel
theorem dJ9_max_e70c8_8 : decode cJ9_max_e70c8 8 = .ok (.fload_n 0, 1) := by decide +kernel
theorem dJ9_max_e70c8_9 : decode cJ9_max_e70c8 9 = .ok (.fconst 0, 1) := by decide +kernel
theorem dJ9_max_e70c8_10 : decode cJ9_max_e70c8 10 = .ok (.fcmp .l, 1) := by decide +kernel
theorem dJ9_max_e70c8_11 : decode cJ9_max_e70c8 11 = .ok (.ifCond .ne 23, 3) := by decide +kernel
theorem dJ9_max_e70c8_14 : decode cJ9_max_e70c8 14 = .ok (.fload_n 1, 1) := by decide +kernel
theorem dJ9_max_e70c8_15 : decode cJ9_max_e70c8 15 = .ok (.fconst 0, 1) := by decide +kernel
theorem dJ9_max_e70c8_16 : decode cJ9_max_e70c8 16 = .ok (.fcmp .l, 1) := by decide +kernel
theorem dJ9_max_e70c8_17 : decode cJ9_max_e70c8 17 = .ok (.ifCond .ne 17, 3) := by decide +kernel
theorem dJ9_max_e70c8_20 : decode cJ9_max_e70c8 20 = .ok (.fload_n 0, 1) := by decide +kernel
theorem dJ9_max_e70c8_21 : decode cJ9_max_e70c8 21 = .ok (.invokestatic 68, 3) := by decide +kernel
theorem dJ9_max_e70c8_24 : decode cJ9_max_e70c8 24 = .ok (.i2l, 1) := by decide +kernel
theorem dJ9_max_e70c8_25 : decode cJ9_max_e70c8 25 = .ok (.getstatic 170, 3) := by decide +kernel
theorem dJ9_max_e70c8_28 : decode cJ9_max_e70c8 28 = .ok (.lcmp, 1) := by decide +kernel
theorem dJ9_max_e70c8_29 : decode cJ9_max_e70c8 29 = .ok (.ifCond .ne 5, 3) := by decide +kernel
theorem dJ9_max_e70c8_32 : decode cJ9_max_e70c8 32 = .ok (.fload_n 1, 1) := by decide +kernel
theorem dJ9_max_e70c8_33 : decode cJ9_max_e70c8 33 = .ok (.freturn, 1) := by decide +kernel
theorem dJ9_max_e70c8_34 : decode cJ9_max_e70c8 34 = .ok (.fload_n 0, 1) := by decide +kernel
theorem dJ9_max_e70c8_35 : decode cJ9_max_e70c8 35 = .ok (.fload_n 1, 1) := by decide +kernel
theorem dJ9_max_e70c8_36 : decode cJ9_max_e70c8 36 = .ok (.fcmp .l, 1) := by decide +kernel
theorem dJ9_max_e70c8_37 : decode cJ9_max_e70c8 37 = .ok (.ifCond .lt 7, 3) := by decide +kernel
theorem dJ9_max_e70c8_40 : decode cJ9_max_e70c8 40 = .ok (.fload_n 0, 1) := by decide +kernel
theorem dJ9_max_e70c8_41 : decode cJ9_max_e70c8 41 = .ok (.goto 4, 3) := by decide +kernel
theorem dJ9_max_e70c8_44 : decode cJ9_max_e70c8 44 = .ok (.fload_n 1, 1) := by decide +kernel
theorem dJ9_max_e70c8_45 : decode cJ9_max_e70c8 45 = .ok (.freturn, 1) := by decide +kernel
theorem dJ9_max_eb370_0 : decode cJ9_max_eb370 0 = .ok (.dload_n 0, 1) := by decide +kernel
theorem dJ9_max_eb370_1 : decode cJ9_max_eb370 1 = .ok (.dload_n 0, 1) := by decide +kernel
theorem dJ9_max_eb370_2 : decode cJ9_max_eb370 2 = .ok (.dcmp .l, 1) := by decide +kernel
theorem dJ9_max_eb370_3 : decode cJ9_max_eb370 3 = .ok (.ifCond .eq 5, 3) := by decide +kernel
theorem dJ9_max_eb370_6 : decode cJ9_max_eb370 6 = .ok (.dload_n 0, 1) := by decide +kernel
theorem dJ9_max_eb370_7 : decode cJ9_max_eb370 7 = .ok (.dreturn, 1) := by decide +kernel
theorem dJ9_max_eb370_8 : decode cJ9_max_eb370 8 = .ok (.dload_n 0, 1) := by decide +kernel
theorem dJ9_max_eb370_9 : decode cJ9_max_eb370 9 = .ok (.dconst 0, 1) := by decide +kernel
theorem dJ9_max_eb370_10 : decode cJ9_max_eb370 10 = .ok (.dcmp .l, 1) := by decide +kernel
theorem dJ9_max_eb370_11 : decode cJ9_max_eb370 11 = .ok (.ifCond .ne 22, 3) := by decide +kernel
theorem dJ9_max_eb370_14 : decode cJ9_max_eb370 14 = .ok (.dload_n 2, 1) := by decide +kernel
theorem dJ9_max_eb370_15 : decode cJ9_max_eb370 15 = .ok (.dconst 0, 1) := by decide +kernel
theorem dJ9_max_eb370_16 : decode cJ9_max_eb370 16 = .ok (.dcmp .l, 1) := by decide +kernel
theorem dJ9_max_eb370_17 : decode cJ9_max_eb370 17 = .ok (.ifCond .ne 16, 3) := by decide +kernel
theorem dJ9_max_eb370_20 : decode cJ9_max_eb370 20 = .ok (.dload_n 0, 1) := by decide +kernel
theorem dJ9_max_eb370_21 : decode cJ9_max_eb370 21 = .ok (.invokestatic 79, 3) := by decide +kernel
theorem dJ9_max_eb370_24 : decode cJ9_max_eb370 24 = .ok (.getstatic 174, 3) := by decide +kernel
theorem dJ9_max_eb370_27 : decode cJ9_max_eb370 27 = .ok (.lcmp, 1) := by decide +kernel
theorem dJ9_max_eb370_28 : decode cJ9_max_eb370 28 = .ok (.ifCond .ne 5, 3) := by decide +kernel
theorem dJ9_max_eb370_31 : decode cJ9_max_eb370 31 = .ok (.dload_n 2, 1) := by decide +kernel
theorem dJ9_max_eb370_32 : decode cJ9_max_eb370 32 = .ok (.dreturn, 1) := by decide +kernel
theorem dJ9_max_eb370_33 : decode cJ9_max_eb370 33 = .ok (.dload_n 0, 1) := by decide +kernel
theorem dJ9_max_eb370_34 : decode cJ9_max_eb370 34 = .ok (.dload_n 2, 1) := by decide +kernel
theorem dJ9_max_eb370_35 : decode cJ9_max_eb370 35 = .ok (.dcmp .l, 1) := by decide +kernel
theorem dJ9_max_eb370_36 : decode cJ9_max_eb370 36 = .ok (.ifCond .lt 7, 3) := by decide +kernel
theorem dJ9_max_eb370_39 : decode cJ9_max_eb370 39 = .ok (.dload_n 0, 1) := by decide +kernel
theorem dJ9_max_eb370_40 : decode cJ9_max_eb370 40 = .ok (.goto 4, 3) := by decide +kernel
theorem dJ9_max_eb370_43 : decode cJ9_max_eb370 43 = .ok (.dload_n 2, 1) := by decide +kernel
theorem dJ9_max_eb370_44 : decode cJ9_max_eb370 44 = .ok (.dreturn, 1) := by decide +kernel
theorem dJ9_min_7cf53_0 : decode cJ9_min_7cf53 0 = .ok (.iload_n 0, 1) := by decide +kernel
theorem dJ9_min_7cf53_1 : decode cJ9_min_7cf53 1 = .ok (.iload_n 1, 1) := by decide +kernel
theorem dJ9_min_7cf53_2 : decode cJ9_min_7cf53 2 = .ok (.if_icmp .gt 7, 3) := by decide +kernel
theorem dJ9_min_7cf53_5 : decode cJ9_min_7cf53 5 = .ok (.iload_n 0, 1) := by decide +kernel
theorem dJ9_min_7cf53_6 : decode cJ9_min_7cf53 6 = .ok (.goto 4, 3) := by decide +kernel
theorem dJ9_min_7cf53_9 : decode cJ9_min_7cf53 9 = .ok (.iload_n 1, 1) := by decide +kernel
theorem dJ9_min_7cf53_10 : decode cJ9_min_7cf53 10 = .ok (.ireturn, 1) := by decide +kernel
theorem dJ9_min_e70c8_0 : decode cJ9_min_e70c8 0 = .ok (.fload_n 0, 1) := by decide +kernel
theorem dJ9_min_e70c8_1 : decode cJ9_min_e70c8 1 = .ok (.fload_n 0, 1) := by decide +kernel
theorem dJ9_min_e70c8_2 : decode cJ9_min_e70c8 2 = .ok (.fcmp .l, 1) := by decide +kernel
theorem dJ9_min_e70c8_3 : decode cJ9_min_e70c8 3 = .ok (.ifCond .eq 5, 3) := by decide +kernel
theorem dJ9_min_e70c8_6 : decode cJ9_min_e70c8 6 = .ok (.fload_n 0, 1) := by decide +kernel
theorem dJ9_min_e70c8_7 : decode cJ9_min_e70c8 7 = .ok (.freturn, 1) := by decide +kernel
