set_option maxRecDepth 20000 in
theorem zz_X6_init_0 : GoodIn wsL_law [.code yX6_init cX6_init 3 none] := goodIn_r _ [11] (by decide +kernel) (by decide +kernel)
set_option maxRecDepth 20000 in
theorem zz_X6_init_1 : GoodIn wsL_law wsX6_init_r1 := goodIn_r _ [12, 13, 14, 15, 16, 17, 18, 19, 20, 21, 22, 23, 24, 25, 26, 27, 28, 29, 30, 31, 32, 33, 34, 35] (by decide +kernel) (by decide +kernel)
set_option maxRecDepth 20000 in
theorem zz_X6_init_2 : GoodIn wsL_law wsX6_init_r2 := goodIn_r _ [36, 37, 38, 39, 40, 41, 42, 43, 44, 45, 46, 47, 48, 49, 50, 51, 52, 53, 54, 55, 56, 57, 58, 59] (by decide +kernel) (by decide +kernel)
set_option maxRecDepth 20000 in
theorem zz_X6_init_3 : GoodIn wsL_law wsX6_init_r3 := goodIn_r _ [60, 61, 62, 63, 64, 65, 66, 67, 68, 69, 70, 71, 72, 73, 74, 75, 76, 77, 78, 79, 80, 81] (by decide +kernel) (by decide +kernel)
set_option maxRecDepth 20000 in
theorem zz_X6_init_4 : GoodIn wsL_law wsX50 := goodIn_r _ [633, 634, 635, 636, 637, 638] (by decide +kernel) (by decide +kernel)
set_option maxRecDepth 20000 in
theorem zz_X6_init_5 : GoodIn wsL_law wsX60 := goodIn_r _ [610, 611, 612, 613, 614, 615, 616, 617, 618, 619, 620, 621, 622, 623, 624, 625, 626, 627, 628, 629, 630, 631, 632] (by decide +kernel) (by decide +kernel)
set_option maxRecDepth 20000 in
theorem zz_X6_init_6 : GoodIn wsL_law wsX10 := goodIn_r _ [639, 640, 641, 642, 643, 644, 645] (by decide +kernel) (by decide +kernel)
set_option maxRecDepth 20000 in
theorem zz_X6_init_7 : GoodIn wsL_law wsX40 := goodIn_r _ [646, 647, 648] (by decide +kernel) (by decide +kernel)
set_option maxRecDepth 20000 in
theorem zz_X6_init_8 : GoodIn wsL_law wsX30 := goodIn_r _ [649, 650, 651, 652, 653, 654] (by decide +kernel) (by decide +kernel)
set_option maxRecDepth 20000 in
theorem zz_X6_init_9 : GoodIn wsL_law wsX00 := goodIn_r _ [655, 656, 657, 658, 659, 660, 661] (by decide +kernel) (by decide +kernel)
set_option maxRecDepth 20000 in
theorem zz_X6_init_10 : GoodIn wsL_law wsX20 := goodIn_r _ [662, 663, 664, 665, 666] (by decide +kernel) (by decide +kernel)
set_option maxRecDepth 20000 in
theorem ggL_law_X6_init : GoodIn wsL_law wsX6_init := (zc_1 zz_X6_init_0 (goodIn_app (goodIn_app (goodIn_app (goodIn_app (goodIn_app (goodIn_app (goodIn_app (goodIn_app zz_X6_init_1 (goodIn_app zz_X6_init_2 zz_X6_init_3)) zz_X6_init_4) zz_X6_init_5) zz_X6_init_6) zz_X6_init_7) zz_X6_init_8) zz_X6_init_9) zz_X6_init_10))
set_option maxRecDepth 20000 in
theorem gL_law_X6_init : GoodIn wsL_law (wsX6_init) := ggL_law_X6_init
set_option maxRecDepth 20000 in
theorem zz_X6_founded_0 : GoodIn wsL_law [.code yX6_founded cX6_founded 1 (some .boolean)] := goodIn_r _ [85] (by decide +kernel) (by decide +kernel)
set_option maxRecDepth 20000 in
theorem zz_X6_founded_1 : GoodIn wsL_law wsX6_founded_r1 := goodIn_r _ [86, 87, 88, 2, 89, 21, 68, 18, 90, 91, 92, 20, 93, 94, 95, 96, 97, 98, 99, 17, 100, 101, 102, 36] (by decide +kernel) (by decide +kernel)
set_option maxRecDepth 20000 in
theorem zz_X6_founded_2 : GoodIn wsL_law wsX6_founded_r2 := goodIn_r _ [103, 104, 105, 106, 107, 55, 108, 109, 79, 110, 111, 112, 113, 24, 26, 114, 115, 116, 117, 118, 27, 28, 119, 120] (by decide +kernel) (by decide +kernel)
set_option maxRecDepth 20000 in
theorem zz_X6_founded_3 : GoodIn wsL_law wsX6_founded_r3 := goodIn_r _ [121, 122, 123, 124, 125, 126, 127, 128, 129, 130, 131, 132, 133, 134, 135, 136, 137, 138, 139, 140, 43, 141, 142, 143] (by decide +kernel) (by decide +kernel)
set_option maxRecDepth 20000 in
theorem zz_X6_founded_4 : GoodIn wsL_law wsX6_founded_r4 := goodIn_r _ [144, 145, 51, 146, 147, 69, 70, 71, 72, 73, 74, 148, 149, 150, 151, 152, 153, 154, 155, 156, 157, 158, 159, 160] (by decide +kernel) (by decide +kernel)
set_option maxRecDepth 20000 in
theorem zz_X6_founded_5 : GoodIn wsL_law wsX6_founded_r5 := goodIn_r _ [161, 162, 163, 164, 165, 166, 167, 168, 169, 170, 171, 80, 172, 173, 174, 175, 176, 177, 178, 179, 180, 181, 182, 183] (by decide +kernel) (by decide +kernel)
set_option maxRecDepth 20000 in
theorem zz_X6_founded_6 : GoodIn wsL_law wsX6_founded_r6 := goodIn_r _ [184, 185, 186, 187, 188, 189, 190, 191, 192, 193, 194, 195, 196, 197, 198, 199, 200, 201, 202, 203, 204, 205, 206, 207] (by decide +kernel) (by decide +kernel)
set_option maxRecDepth 20000 in
theorem zz_X6_founded_7 : GoodIn wsL_law wsX6_founded_r7 := goodIn_r _ [208, 209, 210, 211, 212, 213, 214, 215, 216, 217, 218, 219, 220, 221, 222] (by decide +kernel) (by decide +kernel)
set_option maxRecDepth 20000 in
theorem zz_X6_founded_8 : GoodIn wsL_law wsX60 := goodIn_r _ [610, 611, 612, 613, 614, 615, 616, 617, 618, 619, 620, 621, 622, 623, 624, 625, 626, 627, 628, 629, 630, 631, 632] (by decide +kernel) (by decide +kernel)
set_option maxRecDepth 20000 in
theorem zz_X6_founded_9 : GoodIn wsL_law wsX50 := goodIn_r _ [633, 634, 635, 636, 637, 638] (by decide +kernel) (by decide +kernel)
set_option maxRecDepth 20000 in
theorem zz_X6_founded_10 : GoodIn wsL_law wsX10 := goodIn_r _ [639, 640, 641, 642, 643, 644, 645] (by decide +kernel) (by decide +kernel)
set_option maxRecDepth 20000 in
theorem zz_X6_founded_11 : GoodIn wsL_law wsX20 := goodIn_r _ [662, 663, 664, 665, 666] (by decide +kernel) (by decide +kernel)
set_option maxRecDepth 20000 in
theorem zz_X6_founded_12 : GoodIn wsL_law wsX00 := goodIn_r _ [655, 656, 657, 658, 659, 660, 661] (by decide +kernel) (by decide +kernel)
set_option maxRecDepth 20000 in
theorem zz_X6_founded_13 : GoodIn wsL_law wsX40 := goodIn_r _ [646, 647, 648] (by decide +kernel) (by decide +kernel)
set_option maxRecDepth 20000 in
theorem zz_X6_founded_14 : GoodIn wsL_law wsX30 := goodIn_r _ [649, 650, 651, 652, 653, 654] (by decide +kernel) (by decide +kernel)
set_option maxRecDepth 20000 in
theorem ggL_law_X6_founded : GoodIn wsL_law wsX6_founded := goodIn_ca (goodIn_ca (goodIn_ca ((zc_1 zz_X6_founded_0 (goodIn_app (goodIn_app (goodIn_app (goodIn_app (goodIn_app (goodIn_app (goodIn_app (goodIn_app zz_X6_founded_1 (goodIn_app zz_X6_founded_2 (goodIn_app zz_X6_founded_3 (goodIn_app zz_X6_founded_4 (goodIn_app zz_X6_founded_5 (goodIn_app zz_X6_founded_6 zz_X6_founded_7)))))) zz_X6_founded_8) zz_X6_founded_9) zz_X6_founded_10) zz_X6_founded_11) zz_X6_founded_12) zz_X6_founded_13) zz_X6_founded_14))) (goodIn_sub (fun _ h => List.mem_append_left _ (List.mem_append_left _ (List.mem_append_right _ h))) (by decide +kernel))) (goodIn_sub (fun _ h => List.mem_append_left _ (List.mem_append_right _ h)) (by decide +kernel))) (goodIn_sub (fun _ h => List.mem_append_right _ h) (by decide +kernel))
set_option maxRecDepth 20000 in
theorem gL_law_X6_founded : GoodIn wsL_law (wsV RL 18 RX6 yX6_founded wsX6_founded) := goodIn_app (goodIn_of _ (by decide +kernel)) ggL_law_X6_founded
set_option maxRecDepth 20000 in
theorem zz_X6_act_0 : GoodIn wsL_law [.code yX6_act cX6_act 1 (some .boolean)] := goodIn_r _ [226] (by decide +kernel) (by decide +kernel)
set_option maxRecDepth 20000 in
theorem zz_X6_act_1 : GoodIn wsL_law wsX6_act_r1 := goodIn_r _ [115, 116, 117, 2, 118, 27, 28, 119, 120, 121, 122, 123, 124, 125, 180, 181, 182, 183, 184, 18, 114, 185, 186, 187] (by decide +kernel) (by decide +kernel)
set_option maxRecDepth 20000 in
theorem zz_X6_act_2 : GoodIn wsL_law wsX6_act_r2 := goodIn_r _ [17, 188, 130, 131, 36, 134, 189, 190, 135, 136, 137, 191, 192, 193, 43, 194, 195, 196, 197, 198, 199, 227, 228, 229] (by decide +kernel) (by decide +kernel)
set_option maxRecDepth 20000 in
theorem zz_X6_act_3 : GoodIn wsL_law wsX6_act_r3 := goodIn_r _ [230, 231, 232, 233, 234, 235, 236, 237, 238, 239, 240, 241, 242, 243, 244, 245, 246, 247, 248, 249, 250, 251, 252, 253] (by decide +kernel) (by decide +kernel)
set_option maxRecDepth 20000 in
theorem zz_X6_act_4 : GoodIn wsL_law wsX6_act_r4 := goodIn_r _ [254, 255, 256, 257, 258, 259, 260, 7, 261, 262, 6, 8, 263, 264, 265, 266, 267, 268, 269, 270, 271, 272, 273, 274] (by decide +kernel) (by decide +kernel)
set_option maxRecDepth 20000 in
theorem zz_X6_act_5 : GoodIn wsL_law wsX6_act_r5 := goodIn_r _ [275, 276, 277, 278, 279, 200, 201, 202, 203, 204, 205, 206, 207, 208, 209, 101, 102, 210, 211, 212, 213, 214, 215, 216] (by decide +kernel) (by decide +kernel)
set_option maxRecDepth 20000 in
theorem zz_X6_act_6 : GoodIn wsL_law wsX6_act_r6 := goodIn_r _ [217, 218, 219, 220, 221, 222, 280, 281, 282, 283, 284, 285, 286, 287, 288, 289, 290, 291, 292, 293, 294, 19, 295, 296] (by decide +kernel) (by decide +kernel)
set_option maxRecDepth 20000 in
theorem zz_X6_act_7 : GoodIn wsL_law wsX6_act_r7 := goodIn_r _ [297, 298, 299, 300, 301, 302, 303, 35, 304, 44, 57, 58, 305, 306, 307, 308, 142, 309, 310, 311, 312, 110, 111, 112] (by decide +kernel) (by decide +kernel)
set_option maxRecDepth 20000 in
theorem zz_X6_act_8 : GoodIn wsL_law wsX6_act_r8 := goodIn_r _ [113, 24, 26, 68, 90, 91, 92, 20, 93, 94, 95, 96, 126, 127, 128, 129, 132, 133, 138, 139, 140, 141, 143, 144] (by decide +kernel) (by decide +kernel)
set_option maxRecDepth 20000 in
theorem zz_X6_act_9 : GoodIn wsL_law wsX6_act_r9 := goodIn_r _ [145, 51, 146, 147, 69, 70, 71, 72, 73, 74, 148, 149, 150, 151, 21, 152, 153, 154, 155, 156, 157, 103, 158, 159] (by decide +kernel) (by decide +kernel)
set_option maxRecDepth 20000 in
theorem zz_X6_act_10 : GoodIn wsL_law wsX6_act_r10 := goodIn_r _ [160, 161, 162, 55, 163, 109, 164, 165, 166, 167, 168, 169, 170, 171, 79, 80, 172, 173, 174, 175, 176, 177, 178, 179] (by decide +kernel) (by decide +kernel)
set_option maxRecDepth 20000 in
theorem zz_X6_act_11 : GoodIn wsL_law wsX6_act_r11 := goodIn_r _ [313, 314, 315, 316, 317, 318, 319, 320, 321, 322, 323, 324, 325, 23, 326, 327, 328, 329, 330, 331, 332, 333, 334, 335] (by decide +kernel) (by decide +kernel)
set_option maxRecDepth 20000 in
theorem zz_X6_act_12 : GoodIn wsL_law wsX6_act_r12 := goodIn_r _ [336, 337, 338, 339, 340, 341, 342, 343, 344, 345, 346, 347, 348, 349, 350, 351, 352, 353, 354, 355, 356, 357, 358, 359] (by decide +kernel) (by decide +kernel)
set_option maxRecDepth 20000 in
theorem zz_X6_act_13 : GoodIn wsL_law wsX6_act_r13 := goodIn_r _ [360, 361, 362, 363, 364, 365, 366, 367, 368, 369, 370, 371, 372, 373, 374, 375, 376, 377, 378, 379, 380, 381, 382, 383] rfl (by decide +kernel)
set_option maxRecDepth 20000 in
theorem zz_X6_act_14 : GoodIn wsL_law wsX6_act_r14 := goodIn_r _ [384, 385, 386, 387, 388, 389, 390, 391, 392, 48, 393, 56, 394, 52, 395, 396, 397, 398, 399, 400, 47, 401, 402, 403] (by decide +kernel) (by decide +kernel)
set_option maxRecDepth 20000 in
theorem zz_X6_act_15 : GoodIn wsL_law wsX6_act_r15 := goodIn_r _ [404, 405, 406, 407, 408, 409, 410, 411, 412, 413, 414, 415, 416, 417, 418, 419, 420, 421, 422, 423, 424, 425, 426, 427] (by decide +kernel) (by decide +kernel)
set_option maxRecDepth 20000 in
theorem zz_X6_act_16 : GoodIn wsL_law wsX6_act_r16 := goodIn_r _ [428, 429, 430, 431, 432, 433, 434, 435, 436, 437, 438, 439, 78, 440, 441, 442, 443, 444, 445, 446, 447, 448, 449, 450] (by decide +kernel) (by decide +kernel)
set_option maxRecDepth 20000 in
theorem zz_X6_act_17 : GoodIn wsL_law wsX6_act_r17 := goodIn_r _ [451, 452, 453, 454, 455, 456, 457, 458, 459, 460, 461, 462, 463, 464, 465, 466, 81, 467, 468, 469, 470, 471, 472] (by decide +kernel) (by decide +kernel)
set_option maxRecDepth 20000 in
theorem zz_X6_act_18 : GoodIn wsL_law wsX60 := goodIn_r _ [610, 611, 612, 613, 614, 615, 616, 617, 618, 619, 620, 621, 622, 623, 624, 625, 626, 627, 628, 629, 630, 631, 632] (by decide +kernel) (by decide +kernel)
set_option maxRecDepth 20000 in
theorem zz_X6_act_19 : GoodIn wsL_law wsX50 := goodIn_r _ [633, 634, 635, 636, 637, 638] (by decide +kernel) (by decide +kernel)
set_option maxRecDepth 20000 in
theorem zz_X6_act_20 : GoodIn wsL_law wsX10 := goodIn_r _ [639, 640, 641, 642, 643, 644, 645] (by decide +kernel) (by decide +kernel)
set_option maxRecDepth 20000 in
theorem zz_X6_act_21 : GoodIn wsL_law wsX40 := goodIn_r _ [646, 647, 648] (by decide +kernel) (by decide +kernel)
set_option maxRecDepth 20000 in
theorem zz_X6_act_22 : GoodIn wsL_law wsX30 := goodIn_r _ [649, 650, 651, 652, 653, 654] (by decide +kernel) (by decide +kernel)
set_option maxRecDepth 20000 in
theorem zz_X6_act_23 : GoodIn wsL_law wsX00 := goodIn_r _ [655, 656, 657, 658, 659, 660, 661] (by decide +kernel) (by decide +kernel)
set_option maxRecDepth 20000 in
theorem zz_X6_act_24 : GoodIn wsL_law wsX20 := goodIn_r _ [662, 663, 664, 665, 666] (by decide +kernel) (by decide +kernel)
set_option maxRecDepth 20000 in
theorem ggL_law_X6_act : GoodIn wsL_law wsX6_act := goodIn_ca (goodIn_ca (goodIn_ca ((zc_1 zz_X6_act_0 (goodIn_app (goodIn_app (goodIn_app (goodIn_app (goodIn_app (goodIn_app (goodIn_app (goodIn_app zz_X6_act_1 (goodIn_app zz_X6_act_2 (goodIn_app zz_X6_act_3 (goodIn_app zz_X6_act_4 (goodIn_app zz_X6_act_5 (goodIn_app zz_X6_act_6 (goodIn_app zz_X6_act_7 (goodIn_app zz_X6_act_8 (goodIn_app zz_X6_act_9 (goodIn_app zz_X6_act_10 (goodIn_app zz_X6_act_11 (goodIn_app zz_X6_act_12 (goodIn_app zz_X6_act_13 (goodIn_app zz_X6_act_14 (goodIn_app zz_X6_act_15 (goodIn_app zz_X6_act_16 zz_X6_act_17)))))))))))))))) zz_X6_act_18) zz_X6_act_19) zz_X6_act_20) zz_X6_act_21) zz_X6_act_22) zz_X6_act_23) zz_X6_act_24))) (goodIn_sub (fun _ h => List.mem_append_left _ (List.mem_append_right _ h)) (by decide +kernel))) (goodIn_sub (fun _ h => List.mem_append_left _ (List.mem_append_left _ (List.mem_append_right _ h))) (by decide +kernel))) (goodIn_sub (fun _ h => List.mem_append_right _ h) (by decide +kernel))
set_option maxRecDepth 20000 in
theorem gL_law_X6_act : GoodIn wsL_law (wsV RL 22 RX6 yX6_act wsX6_act) := goodIn_app (goodIn_of _ (by decide +kernel)) ggL_law_X6_act
set_option maxRecDepth 20000 in
theorem ggL_law_X6_draw : GoodIn wsL_law wsX6_draw := goodIn_r _ [118, 27, 28, 119, 120, 121, 122, 123, 124, 125, 610, 611, 612, 613, 614, 615, 616, 617, 618, 619, 620, 621, 622, 623, 624, 625, 626, 627, 628, 629, 630, 631, 632] (by decide +kernel) (by decide +kernel)
set_option maxRecDepth 20000 in
theorem gL_law_X6_draw : GoodIn wsL_law (wsV RL 25 RX6 yX6_draw wsX6_draw) := goodIn_app (goodIn_of _ (by decide +kernel)) ggL_law_X6_draw
