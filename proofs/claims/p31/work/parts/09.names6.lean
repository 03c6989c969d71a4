theorem zc_1 {big b : List Cond} {c : Cond} (ha : GoodIn big [c]) (hb : GoodIn big b) : GoodIn big (c :: b) := fun w h => (List.mem_cons.mp h).elim (fun e => ha w (List.mem_cons.mpr (Or.inl e))) (hb w)
theorem dX6_give_41 : decode cX6_give 41 = .ok (.ldc2_w 195, 3) := by decide +kernel
theorem dX6_give_44 : decode cX6_give 44 = .ok (.ddiv, 1) := by decide +kernel
theorem dX6_give_45 : decode cX6_give 45 = .ok (.dadd, 1) := by decide +kernel
theorem dX6_give_46 : decode cX6_give 46 = .ok (.putfield 192, 3) := by decide +kernel
theorem dX6_give_49 : decode cX6_give 49 = .ok (.aload_n 2, 1) := by decide +kernel
theorem dX6_give_50 : decode cX6_give 50 = .ok (.iconst 1, 1) := by decide +kernel
theorem dX6_give_51 : decode cX6_give 51 = .ok (.iaload, 1) := by decide +kernel
theorem dX6_give_52 : decode cX6_give 52 = .ok (.ifCond .ne 13, 3) := by decide +kernel
theorem dX6_give_55 : decode cX6_give 55 = .ok (.aload_n 2, 1) := by decide +kernel
theorem dX6_give_56 : decode cX6_give 56 = .ok (.iconst 2, 1) := by decide +kernel
theorem dX6_give_57 : decode cX6_give 57 = .ok (.iaload, 1) := by decide +kernel
theorem dX6_give_58 : decode cX6_give 58 = .ok (.iconst 3, 1) := by decide +kernel
theorem dX6_give_59 : decode cX6_give 59 = .ok (.imul, 1) := by decide +kernel
theorem dX6_give_60 : decode cX6_give 60 = .ok (.iconst 4, 1) := by decide +kernel
theorem dX6_give_61 : decode cX6_give 61 = .ok (.idiv, 1) := by decide +kernel
theorem dX6_give_62 : decode cX6_give 62 = .ok (.goto 23, 3) := by decide +kernel
theorem dX6_give_65 : decode cX6_give 65 = .ok (.aload_n 2, 1) := by decide +kernel
theorem dX6_give_66 : decode cX6_give 66 = .ok (.iconst 1, 1) := by decide +kernel
theorem dX6_give_67 : decode cX6_give 67 = .ok (.iaload, 1) := by decide +kernel
theorem dX6_give_68 : decode cX6_give 68 = .ok (.iconst 1, 1) := by decide +kernel
theorem dX6_give_69 : decode cX6_give 69 = .ok (.if_icmp .ne 11, 3) := by decide +kernel
theorem dX6_give_72 : decode cX6_give 72 = .ok (.aload_n 2, 1) := by decide +kernel
theorem dX6_give_73 : decode cX6_give 73 = .ok (.iconst 2, 1) := by decide +kernel
theorem dX6_give_74 : decode cX6_give 74 = .ok (.iaload, 1) := by decide +kernel
theorem dX6_give_75 : decode cX6_give 75 = .ok (.iconst 2, 1) := by decide +kernel
theorem dX6_give_76 : decode cX6_give 76 = .ok (.idiv, 1) := by decide +kernel
theorem dX6_give_77 : decode cX6_give 77 = .ok (.goto 8, 3) := by decide +kernel
theorem dX6_give_80 : decode cX6_give 80 = .ok (.aload_n 2, 1) := by decide +kernel
theorem dX6_give_81 : decode cX6_give 81 = .ok (.iconst 2, 1) := by decide +kernel
theorem dX6_give_82 : decode cX6_give 82 = .ok (.iaload, 1) := by decide +kernel
theorem dX6_give_83 : decode cX6_give 83 = .ok (.iconst 4, 1) := by decide +kernel
theorem dX6_give_84 : decode cX6_give 84 = .ok (.idiv, 1) := by decide +kernel
theorem dX6_give_85 : decode cX6_give 85 = .ok (.istore_n 3, 1) := by decide +kernel
theorem dX6_give_86 : decode cX6_give 86 = .ok (.aload_n 2, 1) := by decide +kernel
theorem dX6_give_87 : decode cX6_give 87 = .ok (.iconst 3, 1) := by decide +kernel
theorem dX6_give_88 : decode cX6_give 88 = .ok (.iaload, 1) := by decide +kernel
theorem dX6_give_89 : decode cX6_give 89 = .ok (.istore 4, 2) := by decide +kernel
theorem dX6_give_91 : decode cX6_give 91 = .ok (.iload 4, 2) := by decide +kernel
theorem dX6_give_93 : decode cX6_give 93 = .ok (.aload_n 0, 1) := by decide +kernel
theorem dX6_give_94 : decode cX6_give 94 = .ok (.getfield 91, 3) := by decide +kernel
theorem dX6_give_97 : decode cX6_give 97 = .ok (.bipush 48, 2) := by decide +kernel
theorem dX6_give_99 : decode cX6_give 99 = .ok (.idiv, 1) := by decide +kernel
theorem dX6_give_100 : decode cX6_give 100 = .ok (.if_icmp .ge 12, 3) := by decide +kernel
theorem dX6_give_103 : decode cX6_give 103 = .ok (.iinc 3 (-1), 3) := by decide +kernel
theorem dX6_give_106 : decode cX6_give 106 = .ok (.iinc 4 1, 3) := by decide +kernel
theorem dX6_give_109 : decode cX6_give 109 = .ok (.goto (-18), 3) := by decide +kernel
theorem dX6_give_112 : decode cX6_give 112 = .ok (.aload_n 0, 1) := by decide +kernel
theorem dX6_give_113 : decode cX6_give 113 = .ok (.dup, 1) := by decide +kernel
theorem dX6_give_114 : decode cX6_give 114 = .ok (.getfield 197, 3) := by decide +kernel
theorem dX6_give_117 : decode cX6_give 117 = .ok (.iload_n 3, 1) := by decide +kernel
theorem dX6_give_118 : decode cX6_give 118 = .ok (.iadd, 1) := by decide +kernel
theorem dX6_give_119 : decode cX6_give 119 = .ok (.putfield 197, 3) := by decide +kernel
theorem dX6_give_122 : decode cX6_give 122 = .ok (.aload_n 0, 1) := by decide +kernel
theorem dX6_give_123 : decode cX6_give 123 = .ok (.getfield 10, 3) := by decide +kernel
theorem dX6_give_126 : decode cX6_give 126 = .ok (.iload_n 1, 1) := by decide +kernel
theorem dX6_give_127 : decode cX6_give 127 = .ok (.invokevirtual 200, 3) := by decide +kernel
theorem dX6_give_130 : decode cX6_give 130 = .ok (.iload_n 3, 1) := by decide +kernel
theorem dX6_give_131 : decode cX6_give 131 = .ok (.if_icmp .ne 7, 3) := by decide +kernel
theorem dX6_give_134 : decode cX6_give 134 = .ok (.iconst 1, 1) := by decide +kernel
theorem dX6_give_135 : decode cX6_give 135 = .ok (.goto 4, 3) := by decide +kernel
theorem dX6_give_138 : decode cX6_give 138 = .ok (.iconst 0, 1) := by decide +kernel
theorem dX6_give_139 : decode cX6_give 139 = .ok (.ireturn, 1) := by decide +kernel
theorem dX6_give_140 : decode cX6_give 140 = .ok (.iinc 1 1, 3) := by decide +kernel
theorem dX6_give_143 : decode cX6_give 143 = .ok (.goto (-141), 3) := by decide +kernel
theorem dX6_give_146 : decode cX6_give 146 = .ok (.iconst 1, 1) := by decide +kernel
theorem dX6_give_147 : decode cX6_give 147 = .ok (.ireturn, 1) := by decide +kernel
set_option maxRecDepth 20000 in
theorem zz_X6_pass_X6_go_0 : GoodIn wsX6_pass [.code yX6_go cX6_go 21 none] := goodIn_r _ [6] rfl (by decide +kernel)
set_option maxRecDepth 20000 in
theorem zz_X6_pass_X6_go_1 : GoodIn wsX6_pass wsX6_go_r1 := goodIn_r _ [7, 8, 9, 10, 11, 12, 13, 14, 15, 16, 17, 18, 19, 20, 21, 22, 23, 24, 25, 26, 27, 28, 29, 30] (by decide +kernel) (by decide +kernel)
set_option maxRecDepth 20000 in
theorem zz_X6_pass_X6_go_2 : GoodIn wsX6_pass wsX6_go_r2 := goodIn_r _ [5, 31, 32, 33, 34, 35, 36, 37, 38, 39, 40, 41, 42, 43, 44, 45, 46, 47, 48, 49, 50, 51, 52, 53] (by decide +kernel) (by decide +kernel)
set_option maxRecDepth 20000 in
theorem zz_X6_pass_X6_go_3 : GoodIn wsX6_pass wsX6_go_r3 := goodIn_r _ [54, 55] (by decide +kernel) (by decide +kernel)
set_option maxRecDepth 20000 in
theorem zz_X6_pass_X6_go_4 : GoodIn wsX6_pass wsX60 := goodIn_r _ [233, 234, 235, 236, 237, 238, 239, 240, 241, 242, 243, 244, 245, 246, 247, 248, 249, 250, 251, 252, 253, 254, 255] (by decide +kernel) (by decide +kernel)
set_option maxRecDepth 20000 in
theorem ggX6_pass_X6_go : GoodIn wsX6_pass wsX6_go := (zc_1 zz_X6_pass_X6_go_0 (goodIn_app (goodIn_app zz_X6_pass_X6_go_1 (goodIn_app zz_X6_pass_X6_go_2 zz_X6_pass_X6_go_3)) zz_X6_pass_X6_go_4))
set_option maxRecDepth 20000 in
theorem gX6_pass_X6_go : GoodIn wsX6_pass (wsV RX6 203 RX6 yX6_go wsX6_go) := goodIn_app (goodIn_of _ (by decide +kernel)) ggX6_pass_X6_go
set_option maxRecDepth 20000 in
theorem ggX6_pass_X5_pass : GoodIn wsX6_pass wsX5_pass := goodIn_ca (goodIn_ca (goodIn_r _ [60, 61, 62, 63, 64, 65, 66, 67, 68, 69, 70, 59, 71, 72, 73, 74, 75, 76, 77, 78, 79, 80, 81, 82, 83, 84, 85, 86, 87, 88, 89, 90, 91, 92, 93, 94, 95, 96, 97, 98, 99, 100, 101, 102, 103, 104, 105, 106, 107, 108, 109, 110, 111, 112, 113, 114, 115, 116, 117, 118, 119, 120, 121, 122, 123, 124, 125, 126, 127, 128, 129, 130, 131, 132, 133, 134, 135, 136, 137, 138, 139, 140, 141, 142, 143, 144, 145, 146, 147, 148, 149, 150, 151, 152, 153, 154, 155, 156, 157, 158, 159, 160, 161, 162, 163, 164, 165, 166, 167, 168, 169, 170, 171, 172, 173, 174, 175, 176, 177, 178, 179, 180, 181, 182, 183, 184, 185, 186, 187, 188, 189, 190, 191, 192, 193, 194, 195, 196, 197, 198, 199, 200, 201, 202, 203, 204, 205, 206, 207, 208, 209, 210, 211, 212, 213, 214, 215, 216, 217, 218, 219, 220, 221, 222, 223, 224, 225, 226, 227, 228, 256, 257, 258, 259, 260, 261, 262, 263, 264, 265, 266, 267, 268, 269, 270, 271, 272, 273, 274, 275, 276, 277, 278, 279, 280, 281, 282, 283, 284, 285, 286, 287, 288, 289] (by decide +kernel) (by decide +kernel)) (goodIn_sub (fun _ h => List.mem_cons_of_mem _ (List.mem_append_left _ (List.mem_append_right _ h))) (by decide +kernel))) (goodIn_sub (fun _ h => List.mem_cons_of_mem _ (List.mem_append_right _ h)) (by decide +kernel))
set_option maxRecDepth 20000 in
theorem gX6_pass_X5_pass : GoodIn wsX6_pass (wsV RX6 206 RX5 yX5_pass wsX5_pass) := goodIn_app (goodIn_of _ (by decide +kernel)) ggX6_pass_X5_pass
set_option maxRecDepth 20000 in
theorem ggX6_pass_X6_count : GoodIn wsX6_pass wsX6_count := goodIn_r _ [232, 22, 233, 234, 235, 236, 237, 238, 239, 240, 241, 242, 243, 244, 245, 246, 247, 248, 249, 250, 251, 252, 253, 254, 255] (by decide +kernel) (by decide +kernel)
set_option maxRecDepth 20000 in
theorem gX6_pass_X6_count : GoodIn wsX6_pass (wsV RX6 183 RX6 yX6_count wsX6_count) := goodIn_app (goodIn_of _ (by decide +kernel)) ggX6_pass_X6_count
theorem dX6_pass_0 : decode cX6_pass 0 = .ok (.iconst 0, 1) := by decide +kernel
theorem dX6_pass_1 : decode cX6_pass 1 = .ok (.istore_n 2, 1) := by decide +kernel
theorem dX6_pass_2 : decode cX6_pass 2 = .ok (.iload_n 2, 1) := by decide +kernel
theorem dX6_pass_3 : decode cX6_pass 3 = .ok (.iload_n 1, 1) := by decide +kernel
theorem dX6_pass_4 : decode cX6_pass 4 = .ok (.if_icmp .ge 13, 3) := by decide +kernel
theorem dX6_pass_7 : decode cX6_pass 7 = .ok (.aload_n 0, 1) := by decide +kernel
theorem dX6_pass_8 : decode cX6_pass 8 = .ok (.invokevirtual 203, 3) := by decide +kernel
theorem dX6_pass_11 : decode cX6_pass 11 = .ok (.iinc 2 1, 3) := by decide +kernel
theorem dX6_pass_14 : decode cX6_pass 14 = .ok (.goto (-12), 3) := by decide +kernel
theorem dX6_pass_17 : decode cX6_pass 17 = .ok (.aload_n 0, 1) := by decide +kernel
theorem dX6_pass_18 : decode cX6_pass 18 = .ok (.getfield 10, 3) := by decide +kernel
theorem dX6_pass_21 : decode cX6_pass 21 = .ok (.iload_n 1, 1) := by decide +kernel
theorem dX6_pass_22 : decode cX6_pass 22 = .ok (.invokevirtual 206, 3) := by decide +kernel
theorem dX6_pass_25 : decode cX6_pass 25 = .ok (.aload_n 0, 1) := by decide +kernel
theorem dX6_pass_26 : decode cX6_pass 26 = .ok (.iconst 2, 1) := by decide +kernel
theorem dX6_pass_27 : decode cX6_pass 27 = .ok (.invokevirtual 183, 3) := by decide +kernel
theorem dX6_pass_30 : decode cX6_pass 30 = .ok (.if_icmp .ne 7, 3) := by decide +kernel
theorem dX6_pass_33 : decode cX6_pass 33 = .ok (.iconst 1, 1) := by decide +kernel
theorem dX6_pass_34 : decode cX6_pass 34 = .ok (.goto 4, 3) := by decide +kernel
theorem dX6_pass_37 : decode cX6_pass 37 = .ok (.iconst 0, 1) := by decide +kernel
theorem dX6_pass_38 : decode cX6_pass 38 = .ok (.ireturn, 1) := by decide +kernel
set_option maxRecDepth 20000 in
theorem ggX6_act_X6_draw : GoodIn wsX6_act wsX6_draw := goodIn_r _ [5, 6, 7, 8, 9, 10, 11, 12, 13, 14, 408, 409, 410, 411, 412, 413, 414, 415, 416, 417, 418, 419, 420, 421, 422, 423, 424, 425, 426, 427, 428, 429, 430] (by decide +kernel) (by decide +kernel)
set_option maxRecDepth 20000 in
theorem gX6_act_X6_draw : GoodIn wsX6_act (wsV RX6 137 RX6 yX6_draw wsX6_draw) := goodIn_app (goodIn_of _ (by decide +kernel)) ggX6_act_X6_draw
set_option maxRecDepth 20000 in
theorem ggX6_act_X6_moon : GoodIn wsX6_act wsX6_moon := goodIn_ca (goodIn_r _ [18, 19, 20, 21, 1, 2, 3, 4, 5, 6, 7, 8, 9, 10, 11, 12, 13, 14, 22, 23, 24, 25, 26, 27, 28, 29, 30, 31, 32, 33, 34, 35, 36, 37, 38, 39, 40, 41, 42, 43, 44, 45, 408, 409, 410, 411, 412, 413, 414, 415, 416, 417, 418, 419, 420, 421, 422, 423, 424, 425, 426, 427, 428, 429, 430, 431, 432, 433, 434, 435, 436, 437, 438, 439, 440, 441, 442, 443, 444, 445, 446] (by decide +kernel) (by decide +kernel)) (goodIn_sub (fun _ h => List.mem_cons_of_mem _ (List.mem_append_left _ (List.mem_append_left _ (List.mem_append_right _ h)))) (by decide +kernel))
set_option maxRecDepth 20000 in
theorem gX6_act_X6_moon : GoodIn wsX6_act (wsV RX6 212 RX6 yX6_moon wsX6_moon) := goodIn_app (goodIn_of _ (by decide +kernel)) ggX6_act_X6_moon
set_option maxRecDepth 20000 in
theorem ggX6_act_X6_surge : GoodIn wsX6_act wsX6_surge := goodIn_ca (goodIn_r _ [49, 50, 51, 20, 21, 1, 2, 3, 4, 5, 6, 7, 8, 9, 10, 11, 12, 13, 14, 52, 53, 54, 25, 55, 27, 28, 29, 30, 56, 57, 32, 33, 34, 35, 58, 59, 60, 39, 61, 62, 63, 64, 65, 66, 67, 68, 69, 70, 71, 72, 73, 37, 38, 40, 41, 74, 75, 76, 77, 78, 79, 80, 81, 82, 83, 84, 85, 86, 87, 88, 89, 90, 91, 92, 93, 94, 95, 96, 97, 98, 99, 100, 101, 42, 43, 44, 45, 19, 408, 409, 410, 411, 412, 413, 414, 415, 416, 417, 418, 419, 420, 421, 422, 423, 424, 425, 426, 427, 428, 429, 430, 431, 432, 433, 434, 435, 436, 437, 438, 439, 440, 441, 442, 443, 444, 445, 446] (by decide +kernel) (by decide +kernel)) (goodIn_sub (fun _ h => List.mem_cons_of_mem _ (List.mem_append_left _ (List.mem_append_left _ (List.mem_append_right _ h)))) (by decide +kernel))
set_option maxRecDepth 20000 in
theorem gX6_act_X6_surge : GoodIn wsX6_act (wsV RX6 214 RX6 yX6_surge wsX6_surge) := goodIn_app (goodIn_of _ (by decide +kernel)) ggX6_act_X6_surge
set_option maxRecDepth 20000 in
theorem ggX6_act_X6_gates : GoodIn wsX6_act wsX6_gates := goodIn_ca (goodIn_ca (goodIn_r _ [105, 106, 107, 20, 1, 2, 3, 4, 5, 6, 7, 8, 9, 10, 11, 12, 13, 14, 108, 109, 110, 25, 111, 27, 28, 112, 113, 114, 29, 115, 116, 33, 34, 35, 408, 409, 410, 411, 412, 413, 414, 415, 416, 417, 418, 419, 420, 421, 422, 423, 424, 425, 426, 427, 428, 429, 430, 431, 432, 433, 434, 435, 436, 437, 438, 439, 440, 441, 442, 443, 447, 448, 449, 450, 451, 452] (by decide +kernel) (by decide +kernel)) (goodIn_sub (fun _ h => List.mem_cons_of_mem _ (List.mem_append_left _ (List.mem_append_left _ (List.mem_append_right _ h)))) (by decide +kernel))) (goodIn_sub (fun _ h => List.mem_cons_of_mem _ (List.mem_append_left _ (List.mem_append_right _ h))) (by decide +kernel))
set_option maxRecDepth 20000 in
theorem gX6_act_X6_gates : GoodIn wsX6_act (wsV RX6 216 RX6 yX6_gates wsX6_gates) := goodIn_app (goodIn_of _ (by decide +kernel)) ggX6_act_X6_gates
set_option maxRecDepth 20000 in
theorem ggX6_act_X6_sluice : GoodIn wsX6_act wsX6_sluice := goodIn_ca (goodIn_r _ [120, 121, 20, 1, 2, 3, 4, 5, 6, 7, 8, 9, 10, 11, 12, 13, 14, 122, 123, 124, 25, 125, 27, 28, 29, 115, 126, 33, 34, 35, 408, 409, 410, 411, 412, 413, 414, 415, 416, 417, 418, 419, 420, 421, 422, 423, 424, 425, 426, 427, 428, 429, 430, 431, 432, 433, 434, 435, 436, 437, 438, 439, 440, 441, 442, 443, 447, 448, 449, 450, 451, 452] (by decide +kernel) (by decide +kernel)) (goodIn_sub (fun _ h => List.mem_cons_of_mem _ (List.mem_append_left _ (List.mem_append_left _ (List.mem_append_right _ h)))) (by decide +kernel))
set_option maxRecDepth 20000 in
theorem gX6_act_X6_sluice : GoodIn wsX6_act (wsV RX6 218 RX6 yX6_sluice wsX6_sluice) := goodIn_app (goodIn_of _ (by decide +kernel)) ggX6_act_X6_sluice
set_option maxRecDepth 20000 in
theorem ggX6_act_X6_scour : GoodIn wsX6_act wsX6_scour := goodIn_r _ [130, 131, 20, 1, 2, 3, 4, 5, 6, 7, 8, 9, 10, 11, 12, 13, 14, 132, 133, 134, 25, 135, 29, 115, 136, 408, 409, 410, 411, 412, 413, 414, 415, 416, 417, 418, 419, 420, 421, 422, 423, 424, 425, 426, 427, 428, 429, 430, 431, 432, 433, 434, 435, 436, 437, 438, 439, 440, 441, 442, 443, 447, 448, 449, 450, 451, 452] (by decide +kernel) (by decide +kernel)
set_option maxRecDepth 20000 in
theorem gX6_act_X6_scour : GoodIn wsX6_act (wsV RX6 220 RX6 yX6_scour wsX6_scour) := goodIn_app (goodIn_of _ (by decide +kernel)) ggX6_act_X6_scour
set_option maxRecDepth 20000 in
theorem ggX6_act_X6_hours : GoodIn wsX6_act wsX6_hours := goodIn_ca (goodIn_r _ [140, 141, 142, 20, 1, 2, 3, 4, 5, 6, 7, 8, 9, 10, 11, 12, 13, 14, 143, 144, 145, 25, 146, 27, 28, 29, 147, 148, 33, 34, 35, 149, 150, 151, 152, 153, 154, 155, 156, 157, 158, 159, 39, 160, 161, 162, 163, 164, 165, 21, 408, 409, 410, 411, 412, 413, 414, 415, 416, 417, 418, 419, 420, 421, 422, 423, 424, 425, 426, 427, 428, 429, 430, 431, 432, 433, 434, 435, 436, 437, 438, 439, 440, 441, 442, 443, 444, 445, 446] (by decide +kernel) (by decide +kernel)) (goodIn_sub (fun _ h => List.mem_cons_of_mem _ (List.mem_append_left _ (List.mem_append_left _ (List.mem_append_right _ h)))) (by decide +kernel))
set_option maxRecDepth 20000 in
theorem gX6_act_X6_hours : GoodIn wsX6_act (wsV RX6 222 RX6 yX6_hours wsX6_hours) := goodIn_app (goodIn_of _ (by decide +kernel)) ggX6_act_X6_hours
set_option maxRecDepth 20000 in
theorem ggX6_act_X6_lot : GoodIn wsX6_act wsX6_lot := goodIn_ca (goodIn_ca (goodIn_r _ [169, 170, 171, 172, 21, 20, 1, 2, 3, 4, 5, 6, 7, 8, 9, 10, 11, 12, 13, 14, 173, 174, 175, 176, 177, 178, 179, 180, 181, 182, 183, 25, 184, 27, 28, 112, 113, 29, 185, 186, 30, 33, 34, 35, 187, 188, 189, 39, 190, 161, 191, 192, 193, 194, 195, 196, 197, 198, 199, 200, 201, 202, 408, 409, 410, 411, 412, 413, 414, 415, 416, 417, 418, 419, 420, 421, 422, 423, 424, 425, 426, 427, 428, 429, 430, 431, 432, 433, 434, 435, 436, 437, 438, 439, 440, 441, 442, 443, 453, 454, 455, 456, 457, 458, 459, 444, 445, 446] (by decide +kernel) (by decide +kernel)) (goodIn_sub (fun _ h => List.mem_cons_of_mem _ (List.mem_append_left _ (List.mem_append_left _ (List.mem_append_right _ h)))) (by decide +kernel))) (goodIn_sub (fun _ h => List.mem_cons_of_mem _ (List.mem_append_left _ (List.mem_append_right _ h))) (by decide +kernel))
set_option maxRecDepth 20000 in
theorem gX6_act_X6_lot : GoodIn wsX6_act (wsV RX6 224 RX6 yX6_lot wsX6_lot) := goodIn_app (goodIn_of _ (by decide +kernel)) ggX6_act_X6_lot
set_option maxRecDepth 20000 in
theorem ggX6_act_X6_feed : GoodIn wsX6_act wsX6_feed := goodIn_ca (goodIn_ca (goodIn_r _ [206, 170, 207, 20, 1, 2, 3, 4, 5, 6, 7, 8, 9, 10, 11, 12, 13, 14, 208, 209, 210, 25, 211, 212, 213, 112, 113, 29, 214, 185, 215, 216, 217, 218, 219, 220, 221, 222, 223, 224, 225, 194, 226, 196, 227, 228, 229, 230, 231, 232, 233, 234, 235, 236, 201, 237, 238, 239, 240, 408, 409, 410, 411, 412, 413, 414, 415, 416, 417, 418, 419, 420, 421, 422, 423, 424, 425, 426, 427, 428, 429, 430, 431, 432, 433, 434, 435, 436, 437, 438, 439, 440, 441, 442, 443, 453, 454, 455, 456, 457, 458, 459, 460, 461, 462, 463, 464] (by decide +kernel) (by decide +kernel)) (goodIn_sub (fun _ h => List.mem_cons_of_mem _ (List.mem_append_right _ h)) (by decide +kernel))) (goodIn_sub (fun _ h => List.mem_cons_of_mem _ (List.mem_append_left _ (List.mem_append_right _ h))) (by decide +kernel))
set_option maxRecDepth 20000 in
theorem gX6_act_X6_feed : GoodIn wsX6_act (wsV RX6 226 RX6 yX6_feed wsX6_feed) := goodIn_app (goodIn_of _ (by decide +kernel)) ggX6_act_X6_feed
set_option maxRecDepth 20000 in
theorem ggX6_act_X6_take : GoodIn wsX6_act wsX6_take := goodIn_ca (goodIn_ca (goodIn_r _ [244, 207, 170, 20, 1, 2, 3, 4, 5, 6, 7, 8, 9, 10, 11, 12, 13, 14, 245, 246, 247, 25, 248, 212, 213, 112, 113, 29, 214, 216, 185, 215, 217, 218, 219, 220, 221, 222, 223, 224, 225, 194, 226, 196, 408, 409, 410, 411, 412, 413, 414, 415, 416, 417, 418, 419, 420, 421, 422, 423, 424, 425, 426, 427, 428, 429, 430, 431, 432, 433, 434, 435, 436, 437, 438, 439, 440, 441, 442, 443, 460, 461, 462, 463, 464, 453, 454, 455, 456, 457, 458, 459] (by decide +kernel) (by decide +kernel)) (goodIn_sub (fun _ h => List.mem_cons_of_mem _ (List.mem_append_right _ h)) (by decide +kernel))) (goodIn_sub (fun _ h => List.mem_cons_of_mem _ (List.mem_append_left _ (List.mem_append_right _ h))) (by decide +kernel))
set_option maxRecDepth 20000 in
theorem gX6_act_X6_take : GoodIn wsX6_act (wsV RX6 228 RX6 yX6_take wsX6_take) := goodIn_app (goodIn_of _ (by decide +kernel)) ggX6_act_X6_take
set_option maxRecDepth 20000 in
theorem ggX6_act_X6_dress : GoodIn wsX6_act wsX6_dress := goodIn_ca (goodIn_ca (goodIn_r _ [252, 207, 253, 254, 20, 1, 2, 3, 4, 5, 6, 7, 8, 9, 10, 11, 12, 13, 14, 255, 256, 257, 25, 258, 212, 213, 112, 113, 29, 214, 259, 260, 261, 217, 218, 219, 220, 221, 222, 227, 228, 229, 230, 231, 232, 262, 263, 264, 408, 409, 410, 411, 412, 413, 414, 415, 416, 417, 418, 419, 420, 421, 422, 423, 424, 425, 426, 427, 428, 429, 430, 431, 432, 433, 434, 435, 436, 437, 438, 439, 440, 441, 442, 443, 460, 461, 462, 463, 464] (by decide +kernel) (by decide +kernel)) (goodIn_sub (fun _ h => List.mem_cons_of_mem _ (List.mem_append_right _ h)) (by decide +kernel))) (goodIn_sub (fun _ h => List.mem_cons_of_mem _ (List.mem_append_left _ (List.mem_append_right _ h))) (by decide +kernel))
set_option maxRecDepth 20000 in
theorem gX6_act_X6_dress : GoodIn wsX6_act (wsV RX6 230 RX6 yX6_dress wsX6_dress) := goodIn_app (goodIn_of _ (by decide +kernel)) ggX6_act_X6_dress
set_option maxRecDepth 20000 in
theorem ggX6_act_X6_give : GoodIn wsX6_act wsX6_give := goodIn_ca (goodIn_ca (goodIn_r _ [268, 170, 269, 270, 21, 271, 20, 272, 273, 274, 25, 275, 212, 213, 112, 113, 29, 185, 215, 276, 30, 277, 278, 279, 80, 280, 281, 282, 283, 284, 223, 224, 225, 194, 226, 196, 187, 188, 189, 39, 190, 161, 285, 286, 287, 408, 409, 410, 411, 412, 413, 414, 415, 416, 417, 418, 419, 420, 421, 422, 423, 424, 425, 426, 427, 428, 429, 430, 431, 432, 433, 434, 435, 436, 437, 438, 439, 440, 441, 442, 443, 453, 454, 455, 456, 457, 458, 459, 444, 445, 446] (by decide +kernel) (by decide +kernel)) (goodIn_sub (fun _ h => List.mem_cons_of_mem _ (List.mem_append_right _ h)) (by decide +kernel))) (goodIn_sub (fun _ h => List.mem_cons_of_mem _ (List.mem_append_left _ (List.mem_append_right _ h))) (by decide +kernel))
set_option maxRecDepth 20000 in
theorem gX6_act_X6_give : GoodIn wsX6_act (wsV RX6 232 RX6 yX6_give wsX6_give) := goodIn_app (goodIn_of _ (by decide +kernel)) ggX6_act_X6_give
set_option maxRecDepth 20000 in
theorem zz_X6_act_X6_pass_0 : GoodIn wsX6_act [.code yX6_pass cX6_pass 3 (some .boolean)] := goodIn_r _ [291] (by decide +kernel) (by decide +kernel)
set_option maxRecDepth 20000 in
theorem zz_X6_act_X6_pass_1 : GoodIn wsX6_act wsX6_pass_r1 := goodIn_r _ [20, 292, 293, 294, 4, 295, 21, 107, 296, 97, 297, 298, 299, 300, 301, 121, 50, 131, 302, 207, 254, 170, 303, 304] rfl (by decide +kernel)
set_option maxRecDepth 20000 in
theorem zz_X6_act_X6_pass_2 : GoodIn wsX6_act wsX6_pass_r2 := goodIn_r _ [93, 171, 305, 89, 90, 91, 92, 94, 95, 96, 51, 98, 99, 100, 101, 42, 43, 44, 45, 19, 306, 307, 308, 309] (by decide +kernel) (by decide +kernel)
set_option maxRecDepth 20000 in
theorem zz_X6_act_X6_pass_3 : GoodIn wsX6_act wsX6_pass_r3 := goodIn_r _ [253, 162, 163, 164, 165, 141, 142, 310, 311, 312, 25, 313, 27, 28, 112, 113, 29, 30, 32, 185, 33, 34, 35, 314] (by decide +kernel) (by decide +kernel)
set_option maxRecDepth 20000 in
theorem zz_X6_act_X6_pass_4 : GoodIn wsX6_act wsX6_pass_r4 := goodIn_r _ [315, 316, 152, 317, 318, 319, 320, 321, 322, 154, 323, 324, 325, 326, 327, 328, 329, 59, 60, 39, 61, 62, 63, 64] (by decide +kernel) (by decide +kernel)
set_option maxRecDepth 20000 in
theorem zz_X6_act_X6_pass_5 : GoodIn wsX6_act wsX6_pass_r5 := goodIn_r _ [65, 66, 67, 68, 69, 70, 71, 72, 73, 37, 38, 40, 41, 74, 75, 76, 77, 78, 79, 80, 81, 82, 83, 84] (by decide +kernel) (by decide +kernel)
set_option maxRecDepth 20000 in
theorem zz_X6_act_X6_pass_6 : GoodIn wsX6_act wsX6_pass_r6 := goodIn_r _ [85, 86, 87, 88, 330, 331, 332, 333, 334, 335, 336, 337, 338, 339, 340, 341, 342, 343, 344, 345, 346, 347, 348, 349] (by decide +kernel) (by decide +kernel)
set_option maxRecDepth 20000 in
theorem zz_X6_act_X6_pass_7 : GoodIn wsX6_act wsX6_pass_r7 := goodIn_r _ [350, 351, 352, 353, 354, 355, 356, 357, 358, 359, 360, 361, 362, 363, 364, 150, 151, 153, 155, 156, 157, 158, 159, 160] (by decide +kernel) (by decide +kernel)
set_option maxRecDepth 20000 in
theorem zz_X6_act_X6_pass_8 : GoodIn wsX6_act wsX6_pass_r8 := goodIn_r _ [161, 365, 366, 367, 220, 368, 222, 232, 231, 369, 370, 371, 372, 373, 374, 224, 225, 194, 226, 196, 375, 376, 377, 378] (by decide +kernel) (by decide +kernel)
set_option maxRecDepth 20000 in
theorem zz_X6_act_X6_pass_9 : GoodIn wsX6_act wsX6_pass_r9 := goodIn_r _ [379, 380, 381, 382, 383, 384, 385, 202, 198, 201, 386, 387, 388, 389, 390, 391, 392, 393, 394, 395, 396, 397, 398, 399] (by decide +kernel) (by decide +kernel)
set_option maxRecDepth 20000 in
theorem zz_X6_act_X6_pass_10 : GoodIn wsX6_act wsX6_pass_r10 := goodIn_r _ [400, 401, 402, 403, 404, 405, 406, 407, 233, 234, 235, 236, 237, 238, 239, 240] (by decide +kernel) (by decide +kernel)
set_option maxRecDepth 20000 in
theorem zz_X6_act_X6_pass_11 : GoodIn wsX6_act wsX60 := goodIn_r _ [408, 409, 410, 411, 412, 413, 414, 415, 416, 417, 418, 419, 420, 421, 422, 423, 424, 425, 426, 427, 428, 429, 430] (by decide +kernel) (by decide +kernel)
set_option maxRecDepth 20000 in
theorem zz_X6_act_X6_pass_12 : GoodIn wsX6_act wsX50 := goodIn_r _ [431, 432, 433, 434, 435, 436] (by decide +kernel) (by decide +kernel)
set_option maxRecDepth 20000 in
theorem zz_X6_act_X6_pass_13 : GoodIn wsX6_act wsX10 := goodIn_r _ [437, 438, 439, 440, 441, 442, 443] (by decide +kernel) (by decide +kernel)
set_option maxRecDepth 20000 in
theorem zz_X6_act_X6_pass_14 : GoodIn wsX6_act wsX40 := goodIn_r _ [444, 445, 446] (by decide +kernel) (by decide +kernel)
set_option maxRecDepth 20000 in
theorem zz_X6_act_X6_pass_15 : GoodIn wsX6_act wsX30 := goodIn_r _ [447, 448, 449, 450, 451, 452] (by decide +kernel) (by decide +kernel)
set_option maxRecDepth 20000 in
theorem zz_X6_act_X6_pass_16 : GoodIn wsX6_act wsX20 := goodIn_r _ [460, 461, 462, 463, 464] (by decide +kernel) (by decide +kernel)
set_option maxRecDepth 20000 in
theorem zz_X6_act_X6_pass_17 : GoodIn wsX6_act wsX00 := goodIn_r _ [453, 454, 455, 456, 457, 458, 459] (by decide +kernel) (by decide +kernel)
set_option maxRecDepth 20000 in
theorem ggX6_act_X6_pass : GoodIn wsX6_act wsX6_pass := goodIn_ca (goodIn_ca ((zc_1 zz_X6_act_X6_pass_0 (goodIn_app (goodIn_app (goodIn_app (goodIn_app (goodIn_app (goodIn_app (goodIn_app (goodIn_app zz_X6_act_X6_pass_1 (goodIn_app zz_X6_act_X6_pass_2 (goodIn_app zz_X6_act_X6_pass_3 (goodIn_app zz_X6_act_X6_pass_4 (goodIn_app zz_X6_act_X6_pass_5 (goodIn_app zz_X6_act_X6_pass_6 (goodIn_app zz_X6_act_X6_pass_7 (goodIn_app zz_X6_act_X6_pass_8 (goodIn_app zz_X6_act_X6_pass_9 zz_X6_act_X6_pass_10))))))))) zz_X6_act_X6_pass_11) zz_X6_act_X6_pass_12) zz_X6_act_X6_pass_13) zz_X6_act_X6_pass_14) zz_X6_act_X6_pass_15) zz_X6_act_X6_pass_16) zz_X6_act_X6_pass_17))) (goodIn_sub (fun _ h => List.mem_cons_of_mem _ (List.mem_append_left _ (List.mem_append_left _ (List.mem_append_right _ h)))) (by decide +kernel))) (goodIn_sub (fun _ h => List.mem_cons_of_mem _ (List.mem_append_left _ (List.mem_append_right _ h))) (by decide +kernel))
set_option maxRecDepth 20000 in
theorem gX6_act_X6_pass : GoodIn wsX6_act (wsV RX6 234 RX6 yX6_pass wsX6_pass) := goodIn_app (goodIn_of _ (by decide +kernel)) ggX6_act_X6_pass
theorem dX6_act_0 : decode cX6_act 0 = .ok (.aload_n 0, 1) := by decide +kernel
theorem dX6_act_1 : decode cX6_act 1 = .ok (.bipush 17, 2) := by decide +kernel
theorem dX6_act_3 : decode cX6_act 3 = .ok (.invokevirtual 137, 3) := by decide +kernel
theorem dX6_act_6 : decode cX6_act 6 = .ok (.tableswitch 161 0 14 #[74, 79, 79, 84, 84, 89, 89, 94, 99, 120, 125, 125, 130, 151, 156], 74) := by decide +kernel
theorem dX6_act_80 : decode cX6_act 80 = .ok (.aload_n 0, 1) := by decide +kernel
theorem dX6_act_81 : decode cX6_act 81 = .ok (.invokevirtual 212, 3) := by decide +kernel
theorem dX6_act_84 : decode cX6_act 84 = .ok (.ireturn, 1) := by decide +kernel
theorem dX6_act_85 : decode cX6_act 85 = .ok (.aload_n 0, 1) := by decide +kernel
theorem dX6_act_86 : decode cX6_act 86 = .ok (.invokevirtual 214, 3) := by decide +kernel
theorem dX6_act_89 : decode cX6_act 89 = .ok (.ireturn, 1) := by decide +kernel
theorem dX6_act_90 : decode cX6_act 90 = .ok (.aload_n 0, 1) := by decide +kernel
theorem dX6_act_91 : decode cX6_act 91 = .ok (.invokevirtual 216, 3) := by decide +kernel
theorem dX6_act_94 : decode cX6_act 94 = .ok (.ireturn, 1) := by decide +kernel
theorem dX6_act_95 : decode cX6_act 95 = .ok (.aload_n 0, 1) := by decide +kernel
theorem dX6_act_96 : decode cX6_act 96 = .ok (.invokevirtual 218, 3) := by decide +kernel
theorem dX6_act_99 : decode cX6_act 99 = .ok (.ireturn, 1) := by decide +kernel
theorem dX6_act_100 : decode cX6_act 100 = .ok (.aload_n 0, 1) := by decide +kernel
theorem dX6_act_101 : decode cX6_act 101 = .ok (.invokevirtual 220, 3) := by decide +kernel
theorem dX6_act_104 : decode cX6_act 104 = .ok (.ireturn, 1) := by decide +kernel
theorem dX6_act_105 : decode cX6_act 105 = .ok (.aload_n 0, 1) := by decide +kernel
theorem dX6_act_106 : decode cX6_act 106 = .ok (.iconst 3, 1) := by decide +kernel
theorem dX6_act_107 : decode cX6_act 107 = .ok (.invokevirtual 137, 3) := by decide +kernel
theorem dX6_act_110 : decode cX6_act 110 = .ok (.ifCond .gt 10, 3) := by decide +kernel
theorem dX6_act_113 : decode cX6_act 113 = .ok (.aload_n 0, 1) := by decide +kernel
theorem dX6_act_114 : decode cX6_act 114 = .ok (.invokevirtual 222, 3) := by decide +kernel
theorem dX6_act_117 : decode cX6_act 117 = .ok (.ifCond .eq 7, 3) := by decide +kernel
theorem dX6_act_120 : decode cX6_act 120 = .ok (.iconst 1, 1) := by decide +kernel
theorem dX6_act_121 : decode cX6_act 121 = .ok (.goto 4, 3) := by decide +kernel
theorem dX6_act_124 : decode cX6_act 124 = .ok (.iconst 0, 1) := by decide +kernel
theorem dX6_act_125 : decode cX6_act 125 = .ok (.ireturn, 1) := by decide +kernel
theorem dX6_act_126 : decode cX6_act 126 = .ok (.aload_n 0, 1) := by decide +kernel
theorem dX6_act_127 : decode cX6_act 127 = .ok (.invokevirtual 224, 3) := by decide +kernel
theorem dX6_act_130 : decode cX6_act 130 = .ok (.ireturn, 1) := by decide +kernel
theorem dX6_act_131 : decode cX6_act 131 = .ok (.aload_n 0, 1) := by decide +kernel
theorem dX6_act_132 : decode cX6_act 132 = .ok (.invokevirtual 226, 3) := by decide +kernel
theorem dX6_act_135 : decode cX6_act 135 = .ok (.ireturn, 1) := by decide +kernel
theorem dX6_act_136 : decode cX6_act 136 = .ok (.aload_n 0, 1) := by decide +kernel
theorem dX6_act_137 : decode cX6_act 137 = .ok (.iconst 2, 1) := by decide +kernel
theorem dX6_act_138 : decode cX6_act 138 = .ok (.invokevirtual 137, 3) := by decide +kernel
theorem dX6_act_141 : decode cX6_act 141 = .ok (.ifCond .gt 10, 3) := by decide +kernel
theorem dX6_act_144 : decode cX6_act 144 = .ok (.aload_n 0, 1) := by decide +kernel
theorem dX6_act_145 : decode cX6_act 145 = .ok (.invokevirtual 228, 3) := by decide +kernel
theorem dX6_act_148 : decode cX6_act 148 = .ok (.ifCond .eq 7, 3) := by decide +kernel
theorem dX6_act_151 : decode cX6_act 151 = .ok (.iconst 1, 1) := by decide +kernel
theorem dX6_act_152 : decode cX6_act 152 = .ok (.goto 4, 3) := by decide +kernel
theorem dX6_act_155 : decode cX6_act 155 = .ok (.iconst 0, 1) := by decide +kernel
theorem dX6_act_156 : decode cX6_act 156 = .ok (.ireturn, 1) := by decide +kernel
theorem dX6_act_157 : decode cX6_act 157 = .ok (.aload_n 0, 1) := by decide +kernel
theorem dX6_act_158 : decode cX6_act 158 = .ok (.invokevirtual 230, 3) := by decide +kernel
theorem dX6_act_161 : decode cX6_act 161 = .ok (.ireturn, 1) := by decide +kernel
theorem dX6_act_162 : decode cX6_act 162 = .ok (.aload_n 0, 1) := by decide +kernel
theorem dX6_act_163 : decode cX6_act 163 = .ok (.invokevirtual 232, 3) := by decide +kernel
theorem dX6_act_166 : decode cX6_act 166 = .ok (.ireturn, 1) := by decide +kernel
theorem dX6_act_167 : decode cX6_act 167 = .ok (.aload_n 0, 1) := by decide +kernel
theorem dX6_act_168 : decode cX6_act 168 = .ok (.iconst 1, 1) := by decide +kernel
theorem dX6_act_169 : decode cX6_act 169 = .ok (.aload_n 0, 1) := by decide +kernel
theorem dX6_act_170 : decode cX6_act 170 = .ok (.aload_n 0, 1) := by decide +kernel
theorem dX6_act_171 : decode cX6_act 171 = .ok (.iconst 3, 1) := by decide +kernel
theorem dX6_act_172 : decode cX6_act 172 = .ok (.invokevirtual 137, 3) := by decide +kernel
theorem dX6_act_175 : decode cX6_act 175 = .ok (.ifCond .ne 8, 3) := by decide +kernel
theorem dX6_act_178 : decode cX6_act 178 = .ok (.bipush 30, 2) := by decide +kernel
theorem dX6_act_180 : decode cX6_act 180 = .ok (.goto 5, 3) := by decide +kernel
theorem dX6_act_183 : decode cX6_act 183 = .ok (.bipush 6, 2) := by decide +kernel
theorem dX6_act_185 : decode cX6_act 185 = .ok (.invokevirtual 137, 3) := by decide +kernel
theorem dX6_act_188 : decode cX6_act 188 = .ok (.iadd, 1) := by decide +kernel
theorem dX6_act_189 : decode cX6_act 189 = .ok (.invokevirtual 234, 3) := by decide +kernel
theorem dX6_act_192 : decode cX6_act 192 = .ok (.ireturn, 1) := by decide +kernel
set_option maxRecDepth 20000 in
theorem ggX6_founded_X6_pair : GoodIn wsX6_founded wsX6_pair := goodIn_ca (goodIn_r _ [5, 6, 7, 8, 9, 10, 4, 11, 12, 13, 14, 15, 16, 17, 18, 19, 20, 21, 22, 23, 24, 25, 26, 27, 28, 29, 30, 31, 32, 33, 160, 161, 162, 163, 164, 165, 166, 167, 168, 169, 170, 171, 172, 173, 174, 175, 176, 177, 178, 179, 180, 181, 182, 183, 184, 185, 186, 187, 188, 189, 190, 191, 192, 193, 194, 195, 196, 197, 198, 199, 200] (by decide +kernel) (by decide +kernel)) (goodIn_sub (fun _ h => List.mem_cons_of_mem _ (List.mem_append_left _ (List.mem_append_left _ (List.mem_append_right _ h)))) (by decide +kernel))
set_option maxRecDepth 20000 in
theorem gX6_founded_X6_pair : GoodIn wsX6_founded (wsV RX6 237 RX6 yX6_pair wsX6_pair) := goodIn_app (goodIn_of _ (by decide +kernel)) ggX6_founded_X6_pair
set_option maxRecDepth 20000 in
theorem ggX6_founded_X6_lot : GoodIn wsX6_founded wsX6_lot := goodIn_ca (goodIn_ca (goodIn_r _ [37, 38, 39, 7, 40, 8, 41, 42, 43, 4, 44, 45, 46, 47, 48, 49, 50, 51, 52, 53, 9, 10, 11, 12, 13, 14, 15, 16, 54, 55, 56, 20, 57, 58, 59, 22, 23, 24, 60, 61, 62, 63, 64, 65, 66, 67, 68, 69, 70, 71, 72, 73, 74, 75, 76, 77, 78, 79, 80, 81, 82, 83, 160, 161, 162, 163, 164, 165, 166, 167, 168, 169, 170, 171, 172, 173, 174, 175, 176, 177, 178, 179, 180, 181, 182, 183, 184, 185, 186, 187, 188, 189, 190, 191, 192, 193, 194, 195, 201, 202, 203, 204, 205, 206, 207, 208, 209, 210] (by decide +kernel) (by decide +kernel)) (goodIn_sub (fun _ h => List.mem_cons_of_mem _ (List.mem_append_left _ (List.mem_append_right _ h))) (by decide +kernel))) (goodIn_sub (fun _ h => List.mem_cons_of_mem _ (List.mem_append_left _ (List.mem_append_left _ (List.mem_append_right _ h)))) (by decide +kernel))
set_option maxRecDepth 20000 in
theorem gX6_founded_X6_lot : GoodIn wsX6_founded (wsV RX6 224 RX6 yX6_lot wsX6_lot) := goodIn_app (goodIn_of _ (by decide +kernel)) ggX6_founded_X6_lot
set_option maxRecDepth 20000 in
theorem ggX6_founded_X6_feed : GoodIn wsX6_founded wsX6_feed := goodIn_ca (goodIn_ca (goodIn_r _ [87, 38, 6, 8, 41, 42, 43, 4, 44, 45, 46, 47, 48, 49, 50, 51, 52, 53, 88, 89, 90, 20, 91, 92, 93, 22, 23, 24, 25, 60, 94, 95, 96, 97, 98, 30, 99, 32, 100, 101, 102, 75, 103, 77, 104, 105, 106, 107, 33, 108, 109, 110, 111, 112, 82, 113, 114, 115, 116, 160, 161, 162, 163, 164, 165, 166, 167, 168, 169, 170, 171, 172, 173, 174, 175, 176, 177, 178, 179, 180, 181, 182, 183, 184, 185, 186, 187, 188, 189, 190, 191, 192, 193, 194, 195, 201, 202, 203, 204, 205, 206, 207, 196, 197, 198, 199, 200] (by decide +kernel) (by decide +kernel)) (goodIn_sub (fun _ h => List.mem_cons_of_mem _ (List.mem_append_right _ h)) (by decide +kernel))) (goodIn_sub (fun _ h => List.mem_cons_of_mem _ (List.mem_append_left _ (List.mem_append_left _ (List.mem_append_right _ h)))) (by decide +kernel))
set_option maxRecDepth 20000 in
theorem gX6_founded_X6_feed : GoodIn wsX6_founded (wsV RX6 226 RX6 yX6_feed wsX6_feed) := goodIn_app (goodIn_of _ (by decide +kernel)) ggX6_founded_X6_feed
set_option maxRecDepth 20000 in
theorem ggX6_founded_X6_moon : GoodIn wsX6_founded wsX6_moon := goodIn_ca (goodIn_r _ [120, 121, 8, 40, 41, 42, 43, 4, 44, 45, 46, 47, 48, 49, 50, 51, 52, 53, 122, 123, 124, 20, 125, 58, 59, 24, 62, 126, 127, 63, 64, 65, 128, 129, 130, 69, 131, 132, 133, 134, 135, 136, 160, 161, 162, 163, 164, 165, 166, 167, 168, 169, 170, 171, 172, 173, 174, 175, 176, 177, 178, 179, 180, 181, 182, 183, 184, 185, 186, 187, 188, 189, 190, 191, 192, 193, 194, 195, 208, 209, 210] (by decide +kernel) (by decide +kernel)) (goodIn_sub (fun _ h => List.mem_cons_of_mem _ (List.mem_append_left _ (List.mem_append_right _ h))) (by decide +kernel))
set_option maxRecDepth 20000 in
theorem gX6_founded_X6_moon : GoodIn wsX6_founded (wsV RX6 212 RX6 yX6_moon wsX6_moon) := goodIn_app (goodIn_of _ (by decide +kernel)) ggX6_founded_X6_moon
set_option maxRecDepth 20000 in
theorem ggX6_founded_X6_gates : GoodIn wsX6_founded wsX6_gates := goodIn_ca (goodIn_ca (goodIn_r _ [140, 141, 142, 8, 41, 42, 43, 4, 44, 45, 46, 47, 48, 49, 50, 51, 52, 53, 143, 144, 145, 20, 146, 58, 59, 22, 23, 147, 24, 148, 149, 63, 64, 65, 160, 161, 162, 163, 164, 165, 166, 167, 168, 169, 170, 171, 172, 173, 174, 175, 176, 177, 178, 179, 180, 181, 182, 183, 184, 185, 186, 187, 188, 189, 190, 191, 192, 193, 194, 195, 211, 212, 213, 214, 215, 216] (by decide +kernel) (by decide +kernel)) (goodIn_sub (fun _ h => List.mem_cons_of_mem _ (List.mem_append_left _ (List.mem_append_right _ h))) (by decide +kernel))) (goodIn_sub (fun _ h => List.mem_cons_of_mem _ (List.mem_append_left _ (List.mem_append_left _ (List.mem_append_right _ h)))) (by decide +kernel))
set_option maxRecDepth 20000 in
theorem gX6_founded_X6_gates : GoodIn wsX6_founded (wsV RX6 216 RX6 yX6_gates wsX6_gates) := goodIn_app (goodIn_of _ (by decide +kernel)) ggX6_founded_X6_gates
set_option maxRecDepth 20000 in
theorem ggX6_founded_X6_sluice : GoodIn wsX6_founded wsX6_sluice := goodIn_ca (goodIn_r _ [153, 154, 8, 41, 42, 43, 4, 44, 45, 46, 47, 48, 49, 50, 51, 52, 53, 155, 156, 157, 20, 158, 58, 59, 24, 148, 159, 63, 64, 65, 160, 161, 162, 163, 164, 165, 166, 167, 168, 169, 170, 171, 172, 173, 174, 175, 176, 177, 178, 179, 180, 181, 182, 183, 184, 185, 186, 187, 188, 189, 190, 191, 192, 193, 194, 195, 211, 212, 213, 214, 215, 216] (by decide +kernel) (by decide +kernel)) (goodIn_sub (fun _ h => List.mem_cons_of_mem _ (List.mem_append_left _ (List.mem_append_right _ h))) (by decide +kernel))
set_option maxRecDepth 20000 in
theorem gX6_founded_X6_sluice : GoodIn wsX6_founded (wsV RX6 218 RX6 yX6_sluice wsX6_sluice) := goodIn_app (goodIn_of _ (by decide +kernel)) ggX6_founded_X6_sluice
theorem dX6_founded_0 : decode cX6_founded 0 = .ok (.aload_n 0, 1) := by decide +kernel
theorem dX6_founded_1 : decode cX6_founded 1 = .ok (.invokevirtual 237, 3) := by decide +kernel
theorem dX6_founded_4 : decode cX6_founded 4 = .ok (.ifCond .eq 63, 3) := by decide +kernel
theorem dX6_founded_7 : decode cX6_founded 7 = .ok (.aload_n 0, 1) := by decide +kernel
theorem dX6_founded_8 : decode cX6_founded 8 = .ok (.invokevirtual 237, 3) := by decide +kernel
theorem dX6_founded_11 : decode cX6_founded 11 = .ok (.ifCond .eq 56, 3) := by decide +kernel
theorem dX6_founded_14 : decode cX6_founded 14 = .ok (.aload_n 0, 1) := by decide +kernel
theorem dX6_founded_15 : decode cX6_founded 15 = .ok (.invokevirtual 224, 3) := by decide +kernel
theorem dX6_founded_18 : decode cX6_founded 18 = .ok (.ifCond .eq 49, 3) := by decide +kernel
theorem dX6_founded_21 : decode cX6_founded 21 = .ok (.aload_n 0, 1) := by decide +kernel
theorem dX6_founded_22 : decode cX6_founded 22 = .ok (.invokevirtual 224, 3) := by decide +kernel
theorem dX6_founded_25 : decode cX6_founded 25 = .ok (.ifCond .eq 42, 3) := by decide +kernel
theorem dX6_founded_28 : decode cX6_founded 28 = .ok (.aload_n 0, 1) := by decide +kernel
theorem dX6_founded_29 : decode cX6_founded 29 = .ok (.invokevirtual 224, 3) := by decide +kernel
theorem dX6_founded_32 : decode cX6_founded 32 = .ok (.ifCond .eq 35, 3) := by decide +kernel
theorem dX6_founded_35 : decode cX6_founded 35 = .ok (.aload_n 0, 1) := by decide +kernel
theorem dX6_founded_36 : decode cX6_founded 36 = .ok (.invokevirtual 226, 3) := by decide +kernel
theorem dX6_founded_39 : decode cX6_founded 39 = .ok (.ifCond .eq 28, 3) := by decide +kernel
theorem dX6_founded_42 : decode cX6_founded 42 = .ok (.aload_n 0, 1) := by decide +kernel
theorem dX6_founded_43 : decode cX6_founded 43 = .ok (.invokevirtual 212, 3) := by decide +kernel
theorem dX6_founded_46 : decode cX6_founded 46 = .ok (.ifCond .eq 21, 3) := by decide +kernel
theorem dX6_founded_49 : decode cX6_founded 49 = .ok (.aload_n 0, 1) := by decide +kernel
theorem dX6_founded_50 : decode cX6_founded 50 = .ok (.invokevirtual 216, 3) := by decide +kernel
theorem dX6_founded_53 : decode cX6_founded 53 = .ok (.ifCond .eq 14, 3) := by decide +kernel
theorem dX6_founded_56 : decode cX6_founded 56 = .ok (.aload_n 0, 1) := by decide +kernel
theorem dX6_founded_57 : decode cX6_founded 57 = .ok (.invokevirtual 218, 3) := by decide +kernel
theorem dX6_founded_60 : decode cX6_founded 60 = .ok (.ifCond .eq 7, 3) := by decide +kernel
theorem dX6_founded_63 : decode cX6_founded 63 = .ok (.iconst 1, 1) := by decide +kernel
theorem dX6_founded_64 : decode cX6_founded 64 = .ok (.goto 4, 3) := by decide +kernel
theorem dX6_founded_67 : decode cX6_founded 67 = .ok (.iconst 0, 1) := by decide +kernel
theorem dX6_founded_68 : decode cX6_founded 68 = .ok (.ireturn, 1) := by decide +kernel
theorem dJ9_abs_0f7a4_0 : decode cJ9_abs_0f7a4 0 = .ok (.iload_n 0, 1) := by decide +kernel
theorem dJ9_abs_0f7a4_1 : decode cJ9_abs_0f7a4 1 = .ok (.ifCond .ge 8, 3) := by decide +kernel
theorem dJ9_abs_0f7a4_4 : decode cJ9_abs_0f7a4 4 = .ok (.iload_n 0, 1) := by decide +kernel
theorem dJ9_abs_0f7a4_5 : decode cJ9_abs_0f7a4 5 = .ok (.ineg, 1) := by decide +kernel
theorem dJ9_abs_0f7a4_6 : decode cJ9_abs_0f7a4 6 = .ok (.goto 4, 3) := by decide +kernel
theorem dJ9_abs_0f7a4_9 : decode cJ9_abs_0f7a4 9 = .ok (.iload_n 0, 1) := by decide +kernel
theorem dJ9_abs_0f7a4_10 : decode cJ9_abs_0f7a4 10 = .ok (.ireturn, 1) := by decide +kernel
theorem dJ9_max_7cf53_0 : decode cJ9_max_7cf53 0 = .ok (.iload_n 0, 1) := by decide +kernel
theorem dJ9_max_7cf53_1 : decode cJ9_max_7cf53 1 = .ok (.iload_n 1, 1) := by decide +kernel
theorem dJ9_max_7cf53_2 : decode cJ9_max_7cf53 2 = .ok (.if_icmp .lt 7, 3) := by decide +kernel
theorem dJ9_max_7cf53_5 : decode cJ9_max_7cf53 5 = .ok (.iload_n 0, 1) := by decide +kernel
theorem dJ9_max_7cf53_6 : decode cJ9_max_7cf53 6 = .ok (.goto 4, 3) := by decide +kernel
theorem dJ9_max_7cf53_9 : decode cJ9_max_7cf53 9 = .ok (.iload_n 1, 1) := by decide +kernel
theorem dJ9_max_7cf53_10 : decode cJ9_max_7cf53 10 = .ok (.ireturn, 1) := by decide +kernel
theorem dJ9_min_7cf53_0 : decode cJ9_min_7cf53 0 = .ok (.iload_n 0, 1) := by decide +kernel
theorem dJ9_min_7cf53_1 : decode cJ9_min_7cf53 1 = .ok (.iload_n 1, 1) := by decide +kernel
theorem dJ9_min_7cf53_2 : decode cJ9_min_7cf53 2 = .ok (.if_icmp .gt 7, 3) := by decide +kernel
theorem dJ9_min_7cf53_5 : decode cJ9_min_7cf53 5 = .ok (.iload_n 0, 1) := by decide +kernel
theorem dJ9_min_7cf53_6 : decode cJ9_min_7cf53 6 = .ok (.goto 4, 3) := by decide +kernel
theorem dJ9_min_7cf53_9 : decode cJ9_min_7cf53 9 = .ok (.iload_n 1, 1) := by decide +kernel
theorem dJ9_min_7cf53_10 : decode cJ9_min_7cf53 10 = .ok (.ireturn, 1) := by decide +kernel
theorem dL_below_0 : decode cL_below 0 = .ok (.iload_n 0, 1) := by decide +kernel
theorem dL_below_1 : decode cL_below 1 = .ok (.ldc 7, 2) := by decide +kernel
theorem dL_below_3 : decode cL_below 3 = .ok (.iand, 1) := by decide +kernel
theorem dL_below_4 : decode cL_below 4 = .ok (.iload_n 1, 1) := by decide +kernel
theorem dL_below_5 : decode cL_below 5 = .ok (.irem, 1) := by decide +kernel
theorem dL_below_6 : decode cL_below 6 = .ok (.ireturn, 1) := by decide +kernel
theorem dL_cell_0 : decode cL_cell 0 = .ok (.iload_n 1, 1) := by decide +kernel
theorem dL_cell_1 : decode cL_cell 1 = .ok (.aload_n 0, 1) := by decide +kernel
theorem dL_cell_2 : decode cL_cell 2 = .ok (.arraylength, 1) := by decide +kernel
theorem dL_cell_3 : decode cL_cell 3 = .ok (.if_icmp .ge 9, 3) := by decide +kernel
theorem dL_cell_6 : decode cL_cell 6 = .ok (.aload_n 0, 1) := by decide +kernel
theorem dL_cell_7 : decode cL_cell 7 = .ok (.iload_n 1, 1) := by decide +kernel
theorem dL_cell_8 : decode cL_cell 8 = .ok (.iaload, 1) := by decide +kernel
theorem dL_cell_9 : decode cL_cell 9 = .ok (.goto 9, 3) := by decide +kernel
theorem dL_cell_12 : decode cL_cell 12 = .ok (.ldc 8, 2) := by decide +kernel
theorem dL_cell_14 : decode cL_cell 14 = .ok (.iload_n 1, 1) := by decide +kernel
theorem dL_cell_15 : decode cL_cell 15 = .ok (.iconst 3, 1) := by decide +kernel
theorem dL_cell_16 : decode cL_cell 16 = .ok (.iadd, 1) := by decide +kernel
theorem dL_cell_17 : decode cL_cell 17 = .ok (.imul, 1) := by decide +kernel
theorem dL_cell_18 : decode cL_cell 18 = .ok (.ireturn, 1) := by decide +kernel
theorem dL_law_0 : decode cL_law 0 = .ok (.iconst 0, 1) := by decide +kernel
theorem dL_law_1 : decode cL_law 1 = .ok (.istore_n 1, 1) := by decide +kernel
theorem dL_law_2 : decode cL_law 2 = .ok (.iload_n 1, 1) := by decide +kernel
theorem dL_law_3 : decode cL_law 3 = .ok (.iconst 2, 1) := by decide +kernel
theorem dL_law_4 : decode cL_law 4 = .ok (.if_icmp .ge 446, 3) := by decide +kernel
theorem dL_law_7 : decode cL_law 7 = .ok (.iconst (-1), 1) := by decide +kernel
theorem dL_law_8 : decode cL_law 8 = .ok (.istore_n 2, 1) := by decide +kernel
theorem dL_law_9 : decode cL_law 9 = .ok (.iload_n 2, 1) := by decide +kernel
theorem dL_law_10 : decode cL_law 10 = .ok (.iconst 5, 1) := by decide +kernel
theorem dL_law_11 : decode cL_law 11 = .ok (.if_icmp .ge 433, 3) := by decide +kernel
theorem dL_law_14 : decode cL_law 14 = .ok (.new 9, 3) := by decide +kernel
theorem dL_law_17 : decode cL_law 17 = .ok (.dup, 1) := by decide +kernel
theorem dL_law_18 : decode cL_law 18 = .ok (.aload_n 0, 1) := by decide +kernel
theorem dL_law_19 : decode cL_law 19 = .ok (.bipush 31, 2) := by decide +kernel
theorem dL_law_21 : decode cL_law 21 = .ok (.iload_n 1, 1) := by decide +kernel
theorem dL_law_22 : decode cL_law 22 = .ok (.imul, 1) := by decide +kernel
theorem dL_law_23 : decode cL_law 23 = .ok (.bipush 7, 2) := by decide +kernel
theorem dL_law_25 : decode cL_law 25 = .ok (.iadd, 1) := by decide +kernel
theorem dL_law_26 : decode cL_law 26 = .ok (.invokespecial 11, 3) := by decide +kernel
theorem dL_law_29 : decode cL_law 29 = .ok (.astore_n 3, 1) := by decide +kernel
theorem dL_law_30 : decode cL_law 30 = .ok (.aload_n 3, 1) := by decide +kernel
theorem dL_law_31 : decode cL_law 31 = .ok (.getfield 14, 3) := by decide +kernel
theorem dL_law_34 : decode cL_law 34 = .ok (.astore 4, 2) := by decide +kernel
theorem dL_law_36 : decode cL_law 36 = .ok (.aload_n 3, 1) := by decide +kernel
theorem dL_law_37 : decode cL_law 37 = .ok (.invokevirtual 18, 3) := by decide +kernel
theorem dL_law_40 : decode cL_law 40 = .ok (.ifCond .ne 5, 3) := by decide +kernel
theorem dL_law_43 : decode cL_law 43 = .ok (.iconst 0, 1) := by decide +kernel
theorem dL_law_44 : decode cL_law 44 = .ok (.ireturn, 1) := by decide +kernel
theorem dL_law_45 : decode cL_law 45 = .ok (.iconst 0, 1) := by decide +kernel
theorem dL_law_46 : decode cL_law 46 = .ok (.istore 5, 2) := by decide +kernel
theorem dL_law_48 : decode cL_law 48 = .ok (.iload 5, 2) := by decide +kernel
theorem dL_law_50 : decode cL_law 50 = .ok (.bipush 14, 2) := by decide +kernel
theorem dL_law_52 : decode cL_law 52 = .ok (.if_icmp .ge 18, 3) := by decide +kernel
theorem dL_law_55 : decode cL_law 55 = .ok (.aload_n 3, 1) := by decide +kernel
theorem dL_law_56 : decode cL_law 56 = .ok (.invokevirtual 22, 3) := by decide +kernel
theorem dL_law_59 : decode cL_law 59 = .ok (.ifCond .ne 5, 3) := by decide +kernel
theorem dL_law_62 : decode cL_law 62 = .ok (.iconst 0, 1) := by decide +kernel
theorem dL_law_63 : decode cL_law 63 = .ok (.ireturn, 1) := by decide +kernel
theorem dL_law_64 : decode cL_law 64 = .ok (.iinc 5 1, 3) := by decide +kernel
theorem dL_law_67 : decode cL_law 67 = .ok (.goto (-19), 3) := by decide +kernel
theorem dL_law_70 : decode cL_law 70 = .ok (.iconst 1, 1) := by decide +kernel
theorem dL_law_71 : decode cL_law 71 = .ok (.aload_n 3, 1) := by decide +kernel
theorem dL_law_72 : decode cL_law 72 = .ok (.bipush 48, 2) := by decide +kernel
theorem dL_law_74 : decode cL_law 74 = .ok (.invokevirtual 25, 3) := by decide +kernel
theorem dL_law_77 : decode cL_law 77 = .ok (.iadd, 1) := by decide +kernel
theorem dL_law_78 : decode cL_law 78 = .ok (.istore 5, 2) := by decide +kernel
theorem dL_law_80 : decode cL_law 80 = .ok (.aload_n 3, 1) := by decide +kernel
theorem dL_law_81 : decode cL_law 81 = .ok (.aload_n 3, 1) := by decide +kernel
theorem dL_law_82 : decode cL_law 82 = .ok (.getfield 29, 3) := by decide +kernel
theorem dL_law_85 : decode cL_law 85 = .ok (.arraylength, 1) := by decide +kernel
theorem dL_law_86 : decode cL_law 86 = .ok (.invokevirtual 25, 3) := by decide +kernel
theorem dL_law_89 : decode cL_law 89 = .ok (.istore 6, 2) := by decide +kernel
theorem dL_law_91 : decode cL_law 91 = .ok (.aload 4, 2) := by decide +kernel
theorem dL_law_93 : decode cL_law 93 = .ok (.invokevirtual 33, 3) := by decide +kernel
theorem dL_law_96 : decode cL_law 96 = .ok (.lstore 7, 2) := by decide +kernel
theorem dL_law_98 : decode cL_law 98 = .ok (.aload 4, 2) := by decide +kernel
theorem dL_law_100 : decode cL_law 100 = .ok (.iload 5, 2) := by decide +kernel
theorem dL_law_102 : decode cL_law 102 = .ok (.invokevirtual 39, 3) := by decide +kernel
theorem dL_law_105 : decode cL_law 105 = .ok (.istore 9, 2) := by decide +kernel
theorem dL_law_107 : decode cL_law 107 = .ok (.aload 4, 2) := by decide +kernel
theorem dL_law_109 : decode cL_law 109 = .ok (.iload 6, 2) := by decide +kernel
theorem dL_law_111 : decode cL_law 111 = .ok (.invokevirtual 42, 3) := by decide +kernel
theorem dL_law_114 : decode cL_law 114 = .ok (.istore 10, 2) := by decide +kernel
theorem dL_law_116 : decode cL_law 116 = .ok (.iload 9, 2) := by decide +kernel
theorem dL_law_118 : decode cL_law 118 = .ok (.ifCond .lt 20, 3) := by decide +kernel
theorem dL_law_121 : decode cL_law 121 = .ok (.iload 9, 2) := by decide +kernel
theorem dL_law_123 : decode cL_law 123 = .ok (.iconst 4, 1) := by decide +kernel
theorem dL_law_124 : decode cL_law 124 = .ok (.if_icmp .gt 14, 3) := by decide +kernel
theorem dL_law_127 : decode cL_law 127 = .ok (.aload 4, 2) := by decide +kernel
theorem dL_law_129 : decode cL_law 129 = .ok (.invokevirtual 33, 3) := by decide +kernel
theorem dL_law_132 : decode cL_law 132 = .ok (.lload 7, 2) := by decide +kernel
theorem dL_law_134 : decode cL_law 134 = .ok (.lcmp, 1) := by decide +kernel
theorem dL_law_135 : decode cL_law 135 = .ok (.ifCond .eq 5, 3) := by decide +kernel
theorem dL_law_138 : decode cL_law 138 = .ok (.iconst 0, 1) := by decide +kernel
theorem dL_law_139 : decode cL_law 139 = .ok (.ireturn, 1) := by decide +kernel
theorem dL_law_140 : decode cL_law 140 = .ok (.iload_n 2, 1) := by decide +kernel
theorem dL_law_141 : decode cL_law 141 = .ok (.ifCond .ge 131, 3) := by decide +kernel
theorem dL_law_144 : decode cL_law 144 = .ok (.aload_n 3, 1) := by decide +kernel
theorem dL_law_145 : decode cL_law 145 = .ok (.invokestatic 45, 3) := by decide +kernel
theorem dL_law_148 : decode cL_law 148 = .ok (.ifCond .ne 5, 3) := by decide +kernel
theorem dL_law_151 : decode cL_law 151 = .ok (.iconst 0, 1) := by decide +kernel
theorem dL_law_152 : decode cL_law 152 = .ok (.ireturn, 1) := by decide +kernel
theorem dL_law_153 : decode cL_law 153 = .ok (.iload 10, 2) := by decide +kernel
theorem dL_law_155 : decode cL_law 155 = .ok (.iconst 1, 1) := by decide +kernel
theorem dL_law_156 : decode cL_law 156 = .ok (.if_icmp .ge 6, 3) := by decide +kernel
theorem dL_law_159 : decode cL_law 159 = .ok (.goto 279, 3) := by decide +kernel
theorem dL_law_162 : decode cL_law 162 = .ok (.iload 10, 2) := by decide +kernel
theorem dL_law_164 : decode cL_law 164 = .ok (.iconst 1, 1) := by decide +kernel
theorem dL_law_165 : decode cL_law 165 = .ok (.isub, 1) := by decide +kernel
theorem dL_law_166 : decode cL_law 166 = .ok (.istore 11, 2) := by decide +kernel
theorem dL_law_168 : decode cL_law 168 = .ok (.iload 11, 2) := by decide +kernel
theorem dL_law_170 : decode cL_law 170 = .ok (.ifCond .le 22, 3) := by decide +kernel
theorem dL_law_173 : decode cL_law 173 = .ok (.aload 4, 2) := by decide +kernel
theorem dL_law_175 : decode cL_law 175 = .ok (.iload 11, 2) := by decide +kernel
theorem dL_law_177 : decode cL_law 177 = .ok (.bipush 50, 2) := by decide +kernel
theorem dL_law_179 : decode cL_law 179 = .ok (.invokestatic 51, 3) := by decide +kernel
theorem dL_law_182 : decode cL_law 182 = .ok (.invokevirtual 57, 3) := by decide +kernel
theorem dL_law_185 : decode cL_law 185 = .ok (.pop, 1) := by decide +kernel
theorem dL_law_186 : decode cL_law 186 = .ok (.iinc 11 (-50), 3) := by decide +kernel
theorem dL_law_189 : decode cL_law 189 = .ok (.goto (-21), 3) := by decide +kernel
theorem dL_law_192 : decode cL_law 192 = .ok (.aload 4, 2) := by decide +kernel
theorem dL_law_194 : decode cL_law 194 = .ok (.iload 6, 2) := by decide +kernel
theorem dL_law_196 : decode cL_law 196 = .ok (.iconst 4, 1) := by decide +kernel
theorem dL_law_197 : decode cL_law 197 = .ok (.invokevirtual 60, 3) := by decide +kernel
theorem dL_law_200 : decode cL_law 200 = .ok (.iconst 1, 1) := by decide +kernel
theorem dL_law_201 : decode cL_law 201 = .ok (.if_icmp .ne 26, 3) := by decide +kernel
theorem dL_law_204 : decode cL_law 204 = .ok (.aload 4, 2) := by decide +kernel
theorem dL_law_206 : decode cL_law 206 = .ok (.iload 6, 2) := by decide +kernel
theorem dL_law_208 : decode cL_law 208 = .ok (.invokevirtual 63, 3) := by decide +kernel
theorem dL_law_211 : decode cL_law 211 = .ok (.dconst 0, 1) := by decide +kernel
theorem dL_law_212 : decode cL_law 212 = .ok (.dcmp .g, 1) := by decide +kernel
theorem dL_law_213 : decode cL_law 213 = .ok (.ifCond .le 14, 3) := by decide +kernel
theorem dL_law_216 : decode cL_law 216 = .ok (.aload 4, 2) := by decide +kernel
theorem dL_law_218 : decode cL_law 218 = .ok (.iload 6, 2) := by decide +kernel
theorem dL_law_220 : decode cL_law 220 = .ok (.invokevirtual 42, 3) := by decide +kernel
theorem dL_law_223 : decode cL_law 223 = .ok (.iconst 1, 1) := by decide +kernel
theorem dL_law_224 : decode cL_law 224 = .ok (.if_icmp .eq 5, 3) := by decide +kernel
theorem dL_law_227 : decode cL_law 227 = .ok (.iconst 0, 1) := by decide +kernel
theorem dL_law_228 : decode cL_law 228 = .ok (.ireturn, 1) := by decide +kernel
theorem dL_law_229 : decode cL_law 229 = .ok (.aload 4, 2) := by decide +kernel
theorem dL_law_231 : decode cL_law 231 = .ok (.iconst 1, 1) := by decide +kernel
theorem dL_law_232 : decode cL_law 232 = .ok (.invokevirtual 57, 3) := by decide +kernel
theorem dL_law_235 : decode cL_law 235 = .ok (.pop, 1) := by decide +kernel
theorem dL_law_236 : decode cL_law 236 = .ok (.aload 4, 2) := by decide +kernel
theorem dL_law_238 : decode cL_law 238 = .ok (.iload 6, 2) := by decide +kernel
theorem dL_law_240 : decode cL_law 240 = .ok (.iconst 4, 1) := by decide +kernel
theorem dL_law_241 : decode cL_law 241 = .ok (.invokevirtual 60, 3) := by decide +kernel
theorem dL_law_244 : decode cL_law 244 = .ok (.iconst 2, 1) := by decide +kernel
theorem dL_law_245 : decode cL_law 245 = .ok (.if_icmp .ne 25, 3) := by decide +kernel
theorem dL_law_248 : decode cL_law 248 = .ok (.aload 4, 2) := by decide +kernel
theorem dL_law_250 : decode cL_law 250 = .ok (.iload 6, 2) := by decide +kernel
theorem dL_law_252 : decode cL_law 252 = .ok (.invokevirtual 63, 3) := by decide +kernel
theorem dL_law_255 : decode cL_law 255 = .ok (.dconst 0, 1) := by decide +kernel
theorem dL_law_256 : decode cL_law 256 = .ok (.dcmp .l, 1) := by decide +kernel
theorem dL_law_257 : decode cL_law 257 = .ok (.ifCond .ne 13, 3) := by decide +kernel
theorem dL_law_260 : decode cL_law 260 = .ok (.aload 4, 2) := by decide +kernel
theorem dL_law_262 : decode cL_law 262 = .ok (.iload 6, 2) := by decide +kernel
theorem dL_law_264 : decode cL_law 264 = .ok (.invokevirtual 42, 3) := by decide +kernel
theorem dL_law_267 : decode cL_law 267 = .ok (.ifCond .eq 171, 3) := by decide +kernel
theorem dL_law_270 : decode cL_law 270 = .ok (.iconst 0, 1) := by decide +kernel
theorem dL_law_271 : decode cL_law 271 = .ok (.ireturn, 1) := by decide +kernel
theorem dL_law_272 : decode cL_law 272 = .ok (.new 9, 3) := by decide +kernel
theorem dL_law_275 : decode cL_law 275 = .ok (.dup, 1) := by decide +kernel
theorem dL_law_276 : decode cL_law 276 = .ok (.aload_n 0, 1) := by decide +kernel
theorem dL_law_277 : decode cL_law 277 = .ok (.bipush 31, 2) := by decide +kernel
theorem dL_law_279 : decode cL_law 279 = .ok (.iload_n 1, 1) := by decide +kernel
theorem dL_law_280 : decode cL_law 280 = .ok (.imul, 1) := by decide +kernel
theorem dL_law_281 : decode cL_law 281 = .ok (.bipush 7, 2) := by decide +kernel
theorem dL_law_283 : decode cL_law 283 = .ok (.iadd, 1) := by decide +kernel
theorem dL_law_284 : decode cL_law 284 = .ok (.invokespecial 11, 3) := by decide +kernel
theorem dL_law_287 : decode cL_law 287 = .ok (.astore 11, 2) := by decide +kernel
theorem dL_law_289 : decode cL_law 289 = .ok (.aload 11, 2) := by decide +kernel
theorem dL_law_291 : decode cL_law 291 = .ok (.invokevirtual 18, 3) := by decide +kernel
theorem dL_law_294 : decode cL_law 294 = .ok (.ifCond .ne 5, 3) := by decide +kernel
theorem dL_law_297 : decode cL_law 297 = .ok (.iconst 0, 1) := by decide +kernel
theorem dL_law_298 : decode cL_law 298 = .ok (.ireturn, 1) := by decide +kernel
theorem dL_law_299 : decode cL_law 299 = .ok (.iconst 0, 1) := by decide +kernel
theorem dL_law_300 : decode cL_law 300 = .ok (.istore 12, 2) := by decide +kernel
theorem dL_law_302 : decode cL_law 302 = .ok (.iload 12, 2) := by decide +kernel
theorem dL_law_304 : decode cL_law 304 = .ok (.bipush 14, 2) := by decide +kernel
theorem dL_law_306 : decode cL_law 306 = .ok (.if_icmp .ge 19, 3) := by decide +kernel
theorem dL_law_309 : decode cL_law 309 = .ok (.aload 11, 2) := by decide +kernel
theorem dL_law_311 : decode cL_law 311 = .ok (.invokevirtual 22, 3) := by decide +kernel
theorem dL_law_314 : decode cL_law 314 = .ok (.ifCond .ne 5, 3) := by decide +kernel
theorem dL_law_317 : decode cL_law 317 = .ok (.iconst 0, 1) := by decide +kernel
theorem dL_law_318 : decode cL_law 318 = .ok (.ireturn, 1) := by decide +kernel
theorem dL_law_319 : decode cL_law 319 = .ok (.iinc 12 1, 3) := by decide +kernel
theorem dL_law_322 : decode cL_law 322 = .ok (.goto (-20), 3) := by decide +kernel
theorem dL_law_325 : decode cL_law 325 = .ok (.aload 11, 2) := by decide +kernel
theorem dL_law_327 : decode cL_law 327 = .ok (.getfield 14, 3) := by decide +kernel
theorem dL_law_330 : decode cL_law 330 = .ok (.iload 9, 2) := by decide +kernel
theorem dL_law_332 : decode cL_law 332 = .ok (.invokevirtual 67, 3) := by decide +kernel
theorem dL_law_335 : decode cL_law 335 = .ok (.pop, 1) := by decide +kernel
theorem dL_law_336 : decode cL_law 336 = .ok (.aload 4, 2) := by decide +kernel
theorem dL_law_338 : decode cL_law 338 = .ok (.iload_n 2, 1) := by decide +kernel
theorem dL_law_339 : decode cL_law 339 = .ok (.invokevirtual 67, 3) := by decide +kernel
theorem dL_law_342 : decode cL_law 342 = .ok (.pop, 1) := by decide +kernel
theorem dL_law_343 : decode cL_law 343 = .ok (.aload 4, 2) := by decide +kernel
theorem dL_law_345 : decode cL_law 345 = .ok (.iload 5, 2) := by decide +kernel
theorem dL_law_347 : decode cL_law 347 = .ok (.invokevirtual 57, 3) := by decide +kernel
theorem dL_law_350 : decode cL_law 350 = .ok (.pop, 1) := by decide +kernel
theorem dL_law_351 : decode cL_law 351 = .ok (.aload 11, 2) := by decide +kernel
theorem dL_law_353 : decode cL_law 353 = .ok (.getfield 14, 3) := by decide +kernel
theorem dL_law_356 : decode cL_law 356 = .ok (.iload 5, 2) := by decide +kernel
theorem dL_law_358 : decode cL_law 358 = .ok (.invokevirtual 57, 3) := by decide +kernel
theorem dL_law_361 : decode cL_law 361 = .ok (.pop, 1) := by decide +kernel
theorem dL_law_362 : decode cL_law 362 = .ok (.dconst 0, 1) := by decide +kernel
theorem dL_law_363 : decode cL_law 363 = .ok (.dstore 12, 2) := by decide +kernel
theorem dL_law_365 : decode cL_law 365 = .ok (.dconst 0, 1) := by decide +kernel
theorem dL_law_366 : decode cL_law 366 = .ok (.dstore 14, 2) := by decide +kernel
theorem dL_law_368 : decode cL_law 368 = .ok (.iconst 0, 1) := by decide +kernel
theorem dL_law_369 : decode cL_law 369 = .ok (.istore 16, 2) := by decide +kernel
theorem dL_law_371 : decode cL_law 371 = .ok (.iload 16, 2) := by decide +kernel
theorem dL_law_373 : decode cL_law 373 = .ok (.aload_n 3, 1) := by decide +kernel
theorem dL_law_374 : decode cL_law 374 = .ok (.getfield 29, 3) := by decide +kernel
theorem dL_law_377 : decode cL_law 377 = .ok (.arraylength, 1) := by decide +kernel
theorem dL_law_378 : decode cL_law 378 = .ok (.if_icmp .ge 36, 3) := by decide +kernel
theorem dL_law_381 : decode cL_law 381 = .ok (.dload 12, 2) := by decide +kernel
theorem dL_law_383 : decode cL_law 383 = .ok (.aload 11, 2) := by decide +kernel
theorem dL_law_385 : decode cL_law 385 = .ok (.getfield 14, 3) := by decide +kernel
theorem dL_law_388 : decode cL_law 388 = .ok (.iload 16, 2) := by decide +kernel
theorem dL_law_390 : decode cL_law 390 = .ok (.invokevirtual 63, 3) := by decide +kernel
theorem dL_law_393 : decode cL_law 393 = .ok (.dadd, 1) := by decide +kernel
theorem dL_law_394 : decode cL_law 394 = .ok (.dstore 12, 2) := by decide +kernel
theorem dL_law_396 : decode cL_law 396 = .ok (.dload 14, 2) := by decide +kernel
theorem dL_law_398 : decode cL_law 398 = .ok (.aload 4, 2) := by decide +kernel
theorem dL_law_400 : decode cL_law 400 = .ok (.iload 16, 2) := by decide +kernel
theorem dL_law_402 : decode cL_law 402 = .ok (.invokevirtual 63, 3) := by decide +kernel
theorem dL_law_405 : decode cL_law 405 = .ok (.dadd, 1) := by decide +kernel
theorem dL_law_406 : decode cL_law 406 = .ok (.dstore 14, 2) := by decide +kernel
theorem dL_law_408 : decode cL_law 408 = .ok (.iinc 16 1, 3) := by decide +kernel
theorem dL_law_411 : decode cL_law 411 = .ok (.goto (-40), 3) := by decide +kernel
theorem dL_law_414 : decode cL_law 414 = .ok (.dload 14, 2) := by decide +kernel
theorem dL_law_416 : decode cL_law 416 = .ok (.dload 12, 2) := by decide +kernel
theorem dL_law_418 : decode cL_law 418 = .ok (.dcmp .g, 1) := by decide +kernel
theorem dL_law_419 : decode cL_law 419 = .ok (.ifCond .lt 17, 3) := by decide +kernel
theorem dL_law_422 : decode cL_law 422 = .ok (.dload 14, 2) := by decide +kernel
theorem dL_law_424 : decode cL_law 424 = .ok (.dload 12, 2) := by decide +kernel
theorem dL_law_426 : decode cL_law 426 = .ok (.dcmp .l, 1) := by decide +kernel
theorem dL_law_427 : decode cL_law 427 = .ok (.ifCond .ne 11, 3) := by decide +kernel
theorem dL_law_430 : decode cL_law 430 = .ok (.iload_n 2, 1) := by decide +kernel
theorem dL_law_431 : decode cL_law 431 = .ok (.iload 9, 2) := by decide +kernel
theorem dL_law_433 : decode cL_law 433 = .ok (.if_icmp .ge 5, 3) := by decide +kernel
theorem dL_law_436 : decode cL_law 436 = .ok (.iconst 0, 1) := by decide +kernel
theorem dL_law_437 : decode cL_law 437 = .ok (.ireturn, 1) := by decide +kernel
theorem dL_law_438 : decode cL_law 438 = .ok (.iinc 2 1, 3) := by decide +kernel
theorem dL_law_441 : decode cL_law 441 = .ok (.goto (-432), 3) := by decide +kernel
theorem dL_law_444 : decode cL_law 444 = .ok (.iinc 1 1, 3) := by decide +kernel
theorem dL_law_447 : decode cL_law 447 = .ok (.goto (-445), 3) := by decide +kernel
theorem dL_law_450 : decode cL_law 450 = .ok (.iconst 1, 1) := by decide +kernel
theorem dL_law_451 : decode cL_law 451 = .ok (.ireturn, 1) := by decide +kernel
set_option maxRecDepth 20000 in
theorem ggL_isLocked_X5_many : GoodIn wsL_isLocked wsX5_many := goodIn_ca (goodIn_r _ [8, 9, 10, 11, 12, 7, 13, 14, 15, 16, 17, 18, 19, 20, 21, 22, 23, 24, 25, 26, 27, 28, 29, 30, 31, 32, 33, 34, 35, 36, 37, 38, 39, 40, 41, 42, 43, 44, 45, 46, 47, 48, 49, 50, 51, 52, 53, 54, 55, 56, 57, 58, 59, 60, 61, 62, 63, 64, 65, 66, 67, 68, 69, 70, 71, 72, 73, 74, 75, 76, 77, 78, 79, 113, 114, 115, 116, 117, 118, 119, 120, 121, 122, 123, 124, 125, 126, 127, 128, 129, 130, 131, 132, 133, 134, 135, 136, 137, 138, 139, 140, 141, 142, 143, 144, 145, 146] (by decide +kernel) (by decide +kernel)) (goodIn_sub (fun _ h => List.mem_cons_of_mem _ (List.mem_append_left _ (List.mem_append_right _ h))) (by decide +kernel))
set_option maxRecDepth 20000 in
theorem gL_isLocked_X5_many : GoodIn wsL_isLocked (wsV RL 70 RX5 yX5_many wsX5_many) := goodIn_app (goodIn_of _ (by decide +kernel)) ggL_isLocked_X5_many
set_option maxRecDepth 20000 in
theorem ggL_isLocked_X5_lock : GoodIn wsL_isLocked wsX5_lock := goodIn_r _ [83, 31, 113, 114, 115, 116, 117, 118] (by decide +kernel) (by decide +kernel)
set_option maxRecDepth 20000 in
theorem gL_isLocked_X5_lock : GoodIn wsL_isLocked (wsV RL 73 RX5 yX5_lock wsX5_lock) := goodIn_app (goodIn_of _ (by decide +kernel)) ggL_isLocked_X5_lock
set_option maxRecDepth 20000 in
theorem ggL_isLocked_X5_gates : GoodIn wsL_isLocked wsX5_gates := goodIn_ca (goodIn_ca (goodIn_r _ [87, 9, 10, 88, 89, 31, 18, 21, 22, 11, 12, 7, 13, 113, 114, 115, 116, 117, 118, 119, 120, 121, 122, 123, 124, 125, 129, 130, 131, 132, 133, 134] (by decide +kernel) (by decide +kernel)) (goodIn_sub (fun _ h => List.mem_cons_of_mem _ (List.mem_append_left _ (List.mem_append_right _ h))) (by decide +kernel))) (goodIn_sub (fun _ h => List.mem_cons_of_mem _ (List.mem_append_right _ h)) (by decide +kernel))
set_option maxRecDepth 20000 in
theorem gL_isLocked_X5_gates : GoodIn wsL_isLocked (wsV RL 77 RX5 yX5_gates wsX5_gates) := goodIn_app (goodIn_of _ (by decide +kernel)) ggL_isLocked_X5_gates
theorem dL_isLocked_0 : decode cL_isLocked 0 = .ok (.aload_n 0, 1) := by decide +kernel
theorem dL_isLocked_1 : decode cL_isLocked 1 = .ok (.getfield 14, 3) := by decide +kernel
theorem dL_isLocked_4 : decode cL_isLocked 4 = .ok (.astore_n 1, 1) := by decide +kernel
theorem dL_isLocked_5 : decode cL_isLocked 5 = .ok (.aload_n 1, 1) := by decide +kernel
theorem dL_isLocked_6 : decode cL_isLocked 6 = .ok (.iconst 4, 1) := by decide +kernel
theorem dL_isLocked_7 : decode cL_isLocked 7 = .ok (.invokevirtual 70, 3) := by decide +kernel
theorem dL_isLocked_10 : decode cL_isLocked 10 = .ok (.istore_n 2, 1) := by decide +kernel
theorem dL_isLocked_11 : decode cL_isLocked 11 = .ok (.aload_n 1, 1) := by decide +kernel
theorem dL_isLocked_12 : decode cL_isLocked 12 = .ok (.iconst 1, 1) := by decide +kernel
theorem dL_isLocked_13 : decode cL_isLocked 13 = .ok (.invokevirtual 73, 3) := by decide +kernel
theorem dL_isLocked_16 : decode cL_isLocked 16 = .ok (.pop, 1) := by decide +kernel
theorem dL_isLocked_17 : decode cL_isLocked 17 = .ok (.aload_n 1, 1) := by decide +kernel
theorem dL_isLocked_18 : decode cL_isLocked 18 = .ok (.iconst 3, 1) := by decide +kernel
theorem dL_isLocked_19 : decode cL_isLocked 19 = .ok (.iload_n 2, 1) := by decide +kernel
theorem dL_isLocked_20 : decode cL_isLocked 20 = .ok (.isub, 1) := by decide +kernel
theorem dL_isLocked_21 : decode cL_isLocked 21 = .ok (.invokevirtual 77, 3) := by decide +kernel
theorem dL_isLocked_24 : decode cL_isLocked 24 = .ok (.pop, 1) := by decide +kernel
theorem dL_isLocked_25 : decode cL_isLocked 25 = .ok (.iconst 0, 1) := by decide +kernel
theorem dL_isLocked_26 : decode cL_isLocked 26 = .ok (.ireturn, 1) := by decide +kernel
theorem dL_isLocked_27 : decode cL_isLocked 27 = .ok (.astore_n 3, 1) := by decide +kernel
theorem dL_isLocked_28 : decode cL_isLocked 28 = .ok (.aload_n 1, 1) := by decide +kernel
theorem dL_isLocked_29 : decode cL_isLocked 29 = .ok (.iconst 4, 1) := by decide +kernel
theorem dL_isLocked_30 : decode cL_isLocked 30 = .ok (.invokevirtual 70, 3) := by decide +kernel
theorem dL_isLocked_33 : decode cL_isLocked 33 = .ok (.iload_n 2, 1) := by decide +kernel
theorem dL_isLocked_34 : decode cL_isLocked 34 = .ok (.if_icmp .ne 25, 3) := by decide +kernel
theorem dL_isLocked_37 : decode cL_isLocked 37 = .ok (.aload_n 1, 1) := by decide +kernel
theorem dL_isLocked_38 : decode cL_isLocked 38 = .ok (.bipush 16, 2) := by decide +kernel
theorem dL_isLocked_40 : decode cL_isLocked 40 = .ok (.invokevirtual 70, 3) := by decide +kernel
theorem dL_isLocked_43 : decode cL_isLocked 43 = .ok (.iconst 1, 1) := by decide +kernel
theorem dL_isLocked_44 : decode cL_isLocked 44 = .ok (.if_icmp .ne 15, 3) := by decide +kernel
theorem dL_isLocked_47 : decode cL_isLocked 47 = .ok (.aload_n 1, 1) := by decide +kernel
theorem dL_isLocked_48 : decode cL_isLocked 48 = .ok (.iconst 0, 1) := by decide +kernel
theorem dL_isLocked_49 : decode cL_isLocked 49 = .ok (.invokevirtual 73, 3) := by decide +kernel
theorem dL_isLocked_52 : decode cL_isLocked 52 = .ok (.ifCond .eq 7, 3) := by decide +kernel
theorem dL_isLocked_55 : decode cL_isLocked 55 = .ok (.iconst 1, 1) := by decide +kernel
theorem dL_isLocked_56 : decode cL_isLocked 56 = .ok (.goto 4, 3) := by decide +kernel
theorem dL_isLocked_59 : decode cL_isLocked 59 = .ok (.iconst 0, 1) := by decide +kernel
theorem dL_isLocked_60 : decode cL_isLocked 60 = .ok (.istore 4, 2) := by decide +kernel
theorem dL_isLocked_62 : decode cL_isLocked 62 = .ok (.aload_n 1, 1) := by decide +kernel
theorem dL_isLocked_63 : decode cL_isLocked 63 = .ok (.aload_n 0, 1) := by decide +kernel
theorem dL_isLocked_64 : decode cL_isLocked 64 = .ok (.getfield 82, 3) := by decide +kernel
theorem dL_isLocked_67 : decode cL_isLocked 67 = .ok (.invokevirtual 73, 3) := by decide +kernel
theorem dL_isLocked_70 : decode cL_isLocked 70 = .ok (.pop, 1) := by decide +kernel
theorem dL_isLocked_71 : decode cL_isLocked 71 = .ok (.iload 4, 2) := by decide +kernel
theorem dL_isLocked_73 : decode cL_isLocked 73 = .ok (.ireturn, 1) := by decide +kernel
