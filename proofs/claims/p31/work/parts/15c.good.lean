set_option maxRecDepth 20000 in
theorem zz_X5_pass_0 : GoodIn wsL_law [.code yX5_pass cX5_pass 2 (some .int)] := goodIn_r _ [384] (by decide +kernel) (by decide +kernel)
set_option maxRecDepth 20000 in
theorem zz_X5_pass_1 : GoodIn wsL_law wsX5_pass_r1 := goodIn_r _ [130, 131, 101, 102, 36, 134, 190, 132, 135, 136, 17, 137, 385, 386, 387, 35, 388, 389, 390, 391, 392, 48, 44, 393] (by decide +kernel) (by decide +kernel)
set_option maxRecDepth 20000 in
theorem zz_X5_pass_2 : GoodIn wsL_law wsX5_pass_r2 := goodIn_r _ [56, 394, 52, 395, 396, 397, 240, 241, 43, 242, 243, 244, 245, 246, 247, 248, 249, 250, 251, 252, 253, 254, 192, 193] (by decide +kernel) (by decide +kernel)
set_option maxRecDepth 20000 in
theorem zz_X5_pass_3 : GoodIn wsL_law wsX5_pass_r3 := goodIn_r _ [194, 195, 255, 256, 257, 258, 259, 260, 7, 261, 262, 6, 8, 263, 264, 265, 266, 398, 399, 400, 47, 401, 402, 403] (by decide +kernel) (by decide +kernel)
set_option maxRecDepth 20000 in
theorem zz_X5_pass_4 : GoodIn wsL_law wsX5_pass_r4 := goodIn_r _ [404, 405, 406, 407, 408, 409, 410, 411, 412, 413, 414, 415, 416, 417, 418, 419, 420, 421, 422, 423, 424, 425, 426, 427] (by decide +kernel) (by decide +kernel)
set_option maxRecDepth 20000 in
theorem zz_X5_pass_5 : GoodIn wsL_law wsX5_pass_r5 := goodIn_r _ [428, 429, 430, 431, 302, 303, 304, 57, 58, 305, 306, 307, 308, 142, 432, 433, 434, 55, 435, 109, 80, 79, 436, 437] (by decide +kernel) (by decide +kernel)
set_option maxRecDepth 20000 in
theorem zz_X5_pass_6 : GoodIn wsL_law wsX5_pass_r6 := goodIn_r _ [438, 439, 78, 440, 165, 166, 51, 167, 147, 441, 442, 443, 444, 445, 446, 447, 448, 449, 450, 451, 74, 70, 73, 452] (by decide +kernel) (by decide +kernel)
set_option maxRecDepth 20000 in
theorem zz_X5_pass_7 : GoodIn wsL_law wsX5_pass_r7 := goodIn_r _ [453, 454, 455, 456, 457, 458, 459, 460, 461, 462, 463, 464, 465, 466, 81, 467, 468, 469, 470, 471, 472, 172, 173, 174] (by decide +kernel) (by decide +kernel)
set_option maxRecDepth 20000 in
theorem zz_X5_pass_8 : GoodIn wsL_law wsX5_pass_r8 := goodIn_r _ [175] (by decide +kernel) (by decide +kernel)
set_option maxRecDepth 20000 in
theorem zz_X5_pass_9 : GoodIn wsL_law wsX50 := goodIn_r _ [633, 634, 635, 636, 637, 638] (by decide +kernel) (by decide +kernel)
set_option maxRecDepth 20000 in
theorem zz_X5_pass_10 : GoodIn wsL_law wsX10 := goodIn_r _ [639, 640, 641, 642, 643, 644, 645] (by decide +kernel) (by decide +kernel)
set_option maxRecDepth 20000 in
theorem zz_X5_pass_11 : GoodIn wsL_law wsX40 := goodIn_r _ [646, 647, 648] (by decide +kernel) (by decide +kernel)
set_option maxRecDepth 20000 in
theorem zz_X5_pass_12 : GoodIn wsL_law wsX30 := goodIn_r _ [649, 650, 651, 652, 653, 654] (by decide +kernel) (by decide +kernel)
set_option maxRecDepth 20000 in
theorem zz_X5_pass_13 : GoodIn wsL_law wsX20 := goodIn_r _ [662, 663, 664, 665, 666] (by decide +kernel) (by decide +kernel)
set_option maxRecDepth 20000 in
theorem zz_X5_pass_14 : GoodIn wsL_law wsX00 := goodIn_r _ [655, 656, 657, 658, 659, 660, 661] (by decide +kernel) (by decide +kernel)
set_option maxRecDepth 20000 in
theorem ggL_law_X5_pass : GoodIn wsL_law wsX5_pass := goodIn_ca (goodIn_ca ((zc_1 zz_X5_pass_0 (goodIn_app (goodIn_app (goodIn_app (goodIn_app (goodIn_app (goodIn_app (goodIn_app zz_X5_pass_1 (goodIn_app zz_X5_pass_2 (goodIn_app zz_X5_pass_3 (goodIn_app zz_X5_pass_4 (goodIn_app zz_X5_pass_5 (goodIn_app zz_X5_pass_6 (goodIn_app zz_X5_pass_7 zz_X5_pass_8))))))) zz_X5_pass_9) zz_X5_pass_10) zz_X5_pass_11) zz_X5_pass_12) zz_X5_pass_13) zz_X5_pass_14))) (goodIn_sub (fun _ h => List.mem_append_left _ (List.mem_append_right _ h)) (by decide +kernel))) (goodIn_sub (fun _ h => List.mem_append_left _ (List.mem_append_left _ (List.mem_append_right _ h))) (by decide +kernel))
set_option maxRecDepth 20000 in
theorem gL_law_X5_pass : GoodIn wsL_law (wsV RL 57 RX5 yX5_pass wsX5_pass) := goodIn_app (goodIn_of _ (by decide +kernel)) ggL_law_X5_pass
set_option maxRecDepth 20000 in
theorem ggL_law_X5_ofLot : GoodIn wsL_law wsX5_ofLot := goodIn_ca (goodIn_ca (goodIn_r _ [604, 156, 157, 130, 131, 36, 132, 164, 165, 166, 51, 167, 147, 135, 136, 17, 137, 521, 522, 523, 524, 525, 352, 347, 348, 158, 103, 526, 527, 528, 55, 529, 109, 79, 633, 634, 635, 636, 637, 638, 639, 640, 641, 642, 643, 644, 645, 655, 656, 657, 658, 659, 660, 661, 662, 663, 664, 665, 666] (by decide +kernel) (by decide +kernel)) (goodIn_sub (fun _ h => List.mem_append_right _ h) (by decide +kernel))) (goodIn_sub (fun _ h => List.mem_append_left _ (List.mem_append_right _ h)) (by decide +kernel))
set_option maxRecDepth 20000 in
theorem gL_law_X5_ofLot : GoodIn wsL_law (wsV RL 60 RX5 yX5_ofLot wsX5_ofLot) := goodIn_app (goodIn_of _ (by decide +kernel)) ggL_law_X5_ofLot
set_option maxRecDepth 20000 in
theorem ggL_law_X5_left : GoodIn wsL_law wsX5_left := goodIn_ca (goodIn_r _ [608, 156, 157, 36, 132, 520, 164, 165, 166, 51, 167, 147, 633, 634, 635, 636, 637, 638, 639, 640, 641, 642, 643, 644, 645, 655, 656, 657, 658, 659, 660, 661] (by decide +kernel) (by decide +kernel)) (goodIn_sub (fun _ h => List.mem_append_right _ h) (by decide +kernel))
set_option maxRecDepth 20000 in
theorem gL_law_X5_left : GoodIn wsL_law (wsV RL 63 RX5 yX5_left wsX5_left) := goodIn_app (goodIn_of _ (by decide +kernel)) ggL_law_X5_left
set_option maxRecDepth 20000 in
theorem ggL_law_X5_sluice : GoodIn wsL_law wsX5_sluice := goodIn_ca (goodIn_r _ [221, 130, 131, 36, 211, 222, 135, 136, 17, 137, 633, 634, 635, 636, 637, 638, 639, 640, 641, 642, 643, 644, 645, 649, 650, 651, 652, 653, 654] (by decide +kernel) (by decide +kernel)) (goodIn_sub (fun _ h => List.mem_append_left _ (List.mem_append_right _ h)) (by decide +kernel))
set_option maxRecDepth 20000 in
theorem gL_law_X5_sluice : GoodIn wsL_law (wsV RL 67 RX5 yX5_sluice wsX5_sluice) := goodIn_app (goodIn_of _ (by decide +kernel)) ggL_law_X5_sluice
