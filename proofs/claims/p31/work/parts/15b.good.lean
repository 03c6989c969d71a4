set_option maxRecDepth 20000 in
theorem zz_X5_digest_0 : GoodIn wsL_law [.code yX5_digest cX5_digest 4 (some .long)] := goodIn_r _ [477] (by decide +kernel) (by decide +kernel)
set_option maxRecDepth 20000 in
theorem zz_X5_digest_1 : GoodIn wsL_law wsX5_digest_r1 := goodIn_r _ [478, 36, 103, 104, 132, 133, 134, 479, 480, 481, 17, 482, 190, 211, 212, 222, 483, 355, 484, 210, 138, 139, 140, 43] (by decide +kernel) (by decide +kernel)
set_option maxRecDepth 20000 in
theorem zz_X5_digest_2 : GoodIn wsL_law wsX5_digest_r2 := goodIn_r _ [141, 142, 191, 192, 193, 194, 195, 485, 256, 257, 258, 259, 260, 7, 261, 262, 6, 8, 172, 173, 174, 51, 175, 147] (by decide +kernel) (by decide +kernel)
set_option maxRecDepth 20000 in
theorem zz_X5_digest_3 : GoodIn wsL_law wsX5_digest_r3 := goodIn_r _ [73, 486, 487, 488, 55, 489, 109, 81, 301, 302, 303, 35, 304, 44, 57, 58, 305, 306, 307, 308, 490, 491, 492, 493] (by decide +kernel) (by decide +kernel)
set_option maxRecDepth 20000 in
theorem zz_X5_digest_4 : GoodIn wsL_law wsX5_digest_r4 := goodIn_r _ [494, 495, 496, 497, 498, 499, 500, 353, 501, 413, 414, 47, 415, 416, 409, 502, 249, 250, 251, 252, 253, 254, 255, 503] (by decide +kernel) (by decide +kernel)
set_option maxRecDepth 20000 in
theorem zz_X5_digest_5 : GoodIn wsL_law wsX5_digest_r5 := goodIn_r _ [504, 505, 506, 507, 508, 509, 510, 332, 511, 512, 513, 514, 159, 330, 515, 516, 517, 518, 519, 520, 521, 522, 523, 524] (by decide +kernel) (by decide +kernel)
set_option maxRecDepth 20000 in
theorem zz_X5_digest_6 : GoodIn wsL_law wsX5_digest_r6 := goodIn_r _ [525, 352, 347, 348, 158, 526, 527, 528, 529, 79, 530, 531, 532, 533, 37, 534, 535, 536, 537, 48, 52, 56, 395, 538] (by decide +kernel) (by decide +kernel)
set_option maxRecDepth 20000 in
theorem zz_X5_digest_7 : GoodIn wsL_law wsX5_digest_r7 := goodIn_r _ [539, 540, 541, 246, 542, 543, 544, 545, 407, 406, 423, 429, 422, 546, 547, 548, 549, 69, 550, 94, 95, 96, 70, 71] (by decide +kernel) (by decide +kernel)
set_option maxRecDepth 20000 in
theorem zz_X5_digest_8 : GoodIn wsL_law wsX5_digest_r8 := goodIn_r _ [72, 74, 551, 552, 553, 554, 78, 555, 80, 556, 390, 391, 392, 393, 394, 396, 397, 240, 241, 242, 243, 244, 245, 247] (by decide +kernel) (by decide +kernel)
set_option maxRecDepth 20000 in
theorem zz_X5_digest_9 : GoodIn wsL_law wsX5_digest_r9 := goodIn_r _ [248, 263, 264, 265, 266, 398, 399, 400, 401, 402, 403, 404, 405, 408, 410, 411, 412, 417, 418, 419, 420, 421, 424, 425] (by decide +kernel) (by decide +kernel)
set_option maxRecDepth 20000 in
theorem zz_X5_digest_10 : GoodIn wsL_law wsX5_digest_r10 := goodIn_r _ [426, 427, 428, 430, 431, 432, 433, 434, 435, 436, 437, 438, 439, 440, 165, 166, 167, 441, 442, 443, 444, 445, 446, 447] (by decide +kernel) (by decide +kernel)
set_option maxRecDepth 20000 in
theorem zz_X5_digest_11 : GoodIn wsL_law wsX5_digest_r11 := goodIn_r _ [448, 449, 450, 451, 452, 453, 454, 455, 456, 457, 458, 459, 460, 461, 462, 463, 464, 465, 466, 467, 468, 469, 470, 471] (by decide +kernel) (by decide +kernel)
set_option maxRecDepth 20000 in
theorem zz_X5_digest_12 : GoodIn wsL_law wsX5_digest_r12 := goodIn_r _ [472, 557, 558, 559, 560, 561, 562, 563, 564, 565, 566, 567, 568, 569, 570, 571, 572, 573, 574, 575, 576, 577] (by decide +kernel) (by decide +kernel)
set_option maxRecDepth 20000 in
theorem zz_X5_digest_13 : GoodIn wsL_law wsX50 := goodIn_r _ [633, 634, 635, 636, 637, 638] (by decide +kernel) (by decide +kernel)
set_option maxRecDepth 20000 in
theorem zz_X5_digest_14 : GoodIn wsL_law wsX10 := goodIn_r _ [639, 640, 641, 642, 643, 644, 645] (by decide +kernel) (by decide +kernel)
set_option maxRecDepth 20000 in
theorem zz_X5_digest_15 : GoodIn wsL_law wsX20 := goodIn_r _ [662, 663, 664, 665, 666] (by decide +kernel) (by decide +kernel)
set_option maxRecDepth 20000 in
theorem zz_X5_digest_16 : GoodIn wsL_law wsX00 := goodIn_r _ [655, 656, 657, 658, 659, 660, 661] (by decide +kernel) (by decide +kernel)
set_option maxRecDepth 20000 in
theorem zz_X5_digest_17 : GoodIn wsL_law wsX40 := goodIn_r _ [646, 647, 648] (by decide +kernel) (by decide +kernel)
set_option maxRecDepth 20000 in
theorem zz_X5_digest_18 : GoodIn wsL_law wsX30 := goodIn_r _ [649, 650, 651, 652, 653, 654] (by decide +kernel) (by decide +kernel)
set_option maxRecDepth 20000 in
theorem ggL_law_X5_digest : GoodIn wsL_law wsX5_digest := (zc_1 zz_X5_digest_0 (goodIn_app (goodIn_app (goodIn_app (goodIn_app (goodIn_app (goodIn_app (goodIn_app zz_X5_digest_1 (goodIn_app zz_X5_digest_2 (goodIn_app zz_X5_digest_3 (goodIn_app zz_X5_digest_4 (goodIn_app zz_X5_digest_5 (goodIn_app zz_X5_digest_6 (goodIn_app zz_X5_digest_7 (goodIn_app zz_X5_digest_8 (goodIn_app zz_X5_digest_9 (goodIn_app zz_X5_digest_10 (goodIn_app zz_X5_digest_11 zz_X5_digest_12))))))))))) zz_X5_digest_13) zz_X5_digest_14) zz_X5_digest_15) zz_X5_digest_16) zz_X5_digest_17) zz_X5_digest_18))
set_option maxRecDepth 20000 in
theorem gL_law_X5_digest : GoodIn wsL_law (wsV RL 33 RX5 yX5_digest wsX5_digest) := goodIn_app (goodIn_of _ (by decide +kernel)) ggL_law_X5_digest
set_option maxRecDepth 20000 in
theorem zz_X5_best_0 : GoodIn wsL_law [.code yX5_best cX5_best 2 (some .int)] := goodIn_r _ [581] (by decide +kernel) (by decide +kernel)
set_option maxRecDepth 20000 in
theorem zz_X5_best_1 : GoodIn wsL_law wsX5_best_r1 := goodIn_r _ [130, 131, 135, 136, 17, 137, 566, 567, 568, 569, 570, 571, 572, 573, 37, 36, 211, 222, 132, 534, 535, 536, 35, 537] (by decide +kernel) (by decide +kernel)
set_option maxRecDepth 20000 in
theorem zz_X5_best_2 : GoodIn wsL_law wsX5_best_r2 := goodIn_r _ [44, 48, 52, 56, 57, 58, 395, 538, 539, 540, 43, 541, 142, 195, 246, 542, 543, 544, 47, 545, 407, 409, 406, 423] (by decide +kernel) (by decide +kernel)
set_option maxRecDepth 20000 in
theorem zz_X5_best_3 : GoodIn wsL_law wsX5_best_r3 := goodIn_r _ [429, 422, 546, 547, 548, 51, 549, 69, 550, 94, 95, 96, 70, 71, 72, 73, 74, 147, 551, 552, 553, 55, 554, 78] (by decide +kernel) (by decide +kernel)
set_option maxRecDepth 20000 in
theorem zz_X5_best_4 : GoodIn wsL_law wsX5_best_r4 := goodIn_r _ [555, 79, 80, 81, 109, 556, 390, 391, 392, 393, 394, 396, 397, 240, 241, 242, 243, 244, 245, 247, 248, 249, 250, 251] (by decide +kernel) (by decide +kernel)
set_option maxRecDepth 20000 in
theorem zz_X5_best_5 : GoodIn wsL_law wsX5_best_r5 := goodIn_r _ [252, 253, 254, 192, 193, 194, 255, 256, 257, 258, 259, 260, 7, 261, 262, 6, 8, 263, 264, 265, 266, 398, 399, 400] (by decide +kernel) (by decide +kernel)
set_option maxRecDepth 20000 in
theorem zz_X5_best_6 : GoodIn wsL_law wsX5_best_r6 := goodIn_r _ [401, 402, 403, 404, 405, 408, 410, 411, 412, 413, 414, 415, 416, 417, 418, 419, 420, 421, 424, 425, 426, 427, 428, 430] (by decide +kernel) (by decide +kernel)
set_option maxRecDepth 20000 in
theorem zz_X5_best_7 : GoodIn wsL_law wsX5_best_r7 := goodIn_r _ [431, 302, 303, 304, 305, 306, 307, 308, 432, 433, 434, 435, 436, 437, 438, 439, 440, 165, 166, 167, 441, 442, 443, 444] (by decide +kernel) (by decide +kernel)
set_option maxRecDepth 20000 in
theorem zz_X5_best_8 : GoodIn wsL_law wsX5_best_r8 := goodIn_r _ [445, 446, 447, 448, 449, 450, 451, 452, 453, 454, 455, 456, 457, 458, 459, 460, 461, 462, 463, 464, 465, 466, 467, 468] (by decide +kernel) (by decide +kernel)
set_option maxRecDepth 20000 in
theorem zz_X5_best_9 : GoodIn wsL_law wsX5_best_r9 := goodIn_r _ [469, 470, 471, 472, 574, 575, 576, 577] (by decide +kernel) (by decide +kernel)
set_option maxRecDepth 20000 in
theorem zz_X5_best_10 : GoodIn wsL_law wsX50 := goodIn_r _ [633, 634, 635, 636, 637, 638] (by decide +kernel) (by decide +kernel)
set_option maxRecDepth 20000 in
theorem zz_X5_best_11 : GoodIn wsL_law wsX10 := goodIn_r _ [639, 640, 641, 642, 643, 644, 645] (by decide +kernel) (by decide +kernel)
set_option maxRecDepth 20000 in
theorem zz_X5_best_12 : GoodIn wsL_law wsX30 := goodIn_r _ [649, 650, 651, 652, 653, 654] (by decide +kernel) (by decide +kernel)
set_option maxRecDepth 20000 in
theorem zz_X5_best_13 : GoodIn wsL_law wsX40 := goodIn_r _ [646, 647, 648] (by decide +kernel) (by decide +kernel)
set_option maxRecDepth 20000 in
theorem zz_X5_best_14 : GoodIn wsL_law wsX00 := goodIn_r _ [655, 656, 657, 658, 659, 660, 661] (by decide +kernel) (by decide +kernel)
set_option maxRecDepth 20000 in
theorem zz_X5_best_15 : GoodIn wsL_law wsX20 := goodIn_r _ [662, 663, 664, 665, 666] (by decide +kernel) (by decide +kernel)
set_option maxRecDepth 20000 in
theorem ggL_law_X5_best : GoodIn wsL_law wsX5_best := goodIn_ca ((zc_1 zz_X5_best_0 (goodIn_app (goodIn_app (goodIn_app (goodIn_app (goodIn_app (goodIn_app (goodIn_app zz_X5_best_1 (goodIn_app zz_X5_best_2 (goodIn_app zz_X5_best_3 (goodIn_app zz_X5_best_4 (goodIn_app zz_X5_best_5 (goodIn_app zz_X5_best_6 (goodIn_app zz_X5_best_7 (goodIn_app zz_X5_best_8 zz_X5_best_9)))))))) zz_X5_best_10) zz_X5_best_11) zz_X5_best_12) zz_X5_best_13) zz_X5_best_14) zz_X5_best_15))) (goodIn_sub (fun _ h => List.mem_append_left _ (List.mem_append_right _ h)) (by decide +kernel))
set_option maxRecDepth 20000 in
theorem gL_law_X5_best : GoodIn wsL_law (wsV RL 39 RX5 yX5_best wsX5_best) := goodIn_app (goodIn_of _ (by decide +kernel)) ggL_law_X5_best
set_option maxRecDepth 20000 in
theorem zz_X5_wouldDone_0 : GoodIn wsL_law [.code yX5_wouldDone cX5_wouldDone 2 (some .int)] := goodIn_r _ [585] (by decide +kernel) (by decide +kernel)
set_option maxRecDepth 20000 in
theorem zz_X5_wouldDone_1 : GoodIn wsL_law wsX5_wouldDone_r1 := goodIn_r _ [156, 157, 36, 132, 164, 165, 166, 51, 167, 147, 530, 531, 532, 17, 533, 158, 37, 534, 535, 536, 35, 537, 44, 48] (by decide +kernel) (by decide +kernel)
set_option maxRecDepth 20000 in
theorem zz_X5_wouldDone_2 : GoodIn wsL_law wsX5_wouldDone_r2 := goodIn_r _ [52, 56, 57, 58, 395, 538, 539, 540, 43, 541, 142, 195, 246, 542, 543, 544, 47, 545, 407, 409, 406, 423, 429, 422] (by decide +kernel) (by decide +kernel)
set_option maxRecDepth 20000 in
theorem zz_X5_wouldDone_3 : GoodIn wsL_law wsX5_wouldDone_r3 := goodIn_r _ [546, 547, 548, 549, 69, 550, 94, 95, 96, 70, 71, 72, 73, 74, 551, 552, 553, 55, 554, 78, 555, 79, 80, 81] (by decide +kernel) (by decide +kernel)
set_option maxRecDepth 20000 in
theorem zz_X5_wouldDone_4 : GoodIn wsL_law wsX5_wouldDone_r4 := goodIn_r _ [109, 556, 390, 391, 392, 393, 394, 396, 397, 240, 241, 242, 243, 244, 245, 247, 248, 249, 250, 251, 252, 253, 254, 192] (by decide +kernel) (by decide +kernel)
set_option maxRecDepth 20000 in
theorem zz_X5_wouldDone_5 : GoodIn wsL_law wsX5_wouldDone_r5 := goodIn_r _ [193, 194, 255, 256, 257, 258, 259, 260, 7, 261, 262, 6, 8, 263, 264, 265, 266, 398, 399, 400, 401, 402, 403, 404] (by decide +kernel) (by decide +kernel)
set_option maxRecDepth 20000 in
theorem zz_X5_wouldDone_6 : GoodIn wsL_law wsX5_wouldDone_r6 := goodIn_r _ [405, 408, 410, 411, 412, 413, 414, 415, 416, 417, 418, 419, 420, 421, 424, 425, 426, 427, 428, 430, 431, 302, 303, 304] (by decide +kernel) (by decide +kernel)
set_option maxRecDepth 20000 in
theorem zz_X5_wouldDone_7 : GoodIn wsL_law wsX5_wouldDone_r7 := goodIn_r _ [305, 306, 307, 308, 432, 433, 434, 435, 436, 437, 438, 439, 440, 441, 442, 443, 444, 445, 446, 447, 448, 449, 450, 451] (by decide +kernel) (by decide +kernel)
set_option maxRecDepth 20000 in
theorem zz_X5_wouldDone_8 : GoodIn wsL_law wsX5_wouldDone_r8 := goodIn_r _ [452, 453, 454, 455, 456, 457, 458, 459, 460, 461, 462, 463, 464, 465, 466, 467, 468, 469, 470, 471, 472] (by decide +kernel) (by decide +kernel)
set_option maxRecDepth 20000 in
theorem zz_X5_wouldDone_9 : GoodIn wsL_law wsX50 := goodIn_r _ [633, 634, 635, 636, 637, 638] (by decide +kernel) (by decide +kernel)
set_option maxRecDepth 20000 in
theorem zz_X5_wouldDone_10 : GoodIn wsL_law wsX10 := goodIn_r _ [639, 640, 641, 642, 643, 644, 645] (by decide +kernel) (by decide +kernel)
set_option maxRecDepth 20000 in
theorem zz_X5_wouldDone_11 : GoodIn wsL_law wsX00 := goodIn_r _ [655, 656, 657, 658, 659, 660, 661] (by decide +kernel) (by decide +kernel)
set_option maxRecDepth 20000 in
theorem zz_X5_wouldDone_12 : GoodIn wsL_law wsX40 := goodIn_r _ [646, 647, 648] (by decide +kernel) (by decide +kernel)
set_option maxRecDepth 20000 in
theorem zz_X5_wouldDone_13 : GoodIn wsL_law wsX30 := goodIn_r _ [649, 650, 651, 652, 653, 654] (by decide +kernel) (by decide +kernel)
set_option maxRecDepth 20000 in
theorem zz_X5_wouldDone_14 : GoodIn wsL_law wsX20 := goodIn_r _ [662, 663, 664, 665, 666] (by decide +kernel) (by decide +kernel)
set_option maxRecDepth 20000 in
theorem ggL_law_X5_wouldDone : GoodIn wsL_law wsX5_wouldDone := goodIn_ca ((zc_1 zz_X5_wouldDone_0 (goodIn_app (goodIn_app (goodIn_app (goodIn_app (goodIn_app (goodIn_app (goodIn_app zz_X5_wouldDone_1 (goodIn_app zz_X5_wouldDone_2 (goodIn_app zz_X5_wouldDone_3 (goodIn_app zz_X5_wouldDone_4 (goodIn_app zz_X5_wouldDone_5 (goodIn_app zz_X5_wouldDone_6 (goodIn_app zz_X5_wouldDone_7 zz_X5_wouldDone_8))))))) zz_X5_wouldDone_9) zz_X5_wouldDone_10) zz_X5_wouldDone_11) zz_X5_wouldDone_12) zz_X5_wouldDone_13) zz_X5_wouldDone_14))) (goodIn_sub (fun _ h => List.mem_append_right _ h) (by decide +kernel))
set_option maxRecDepth 20000 in
theorem gL_law_X5_wouldDone : GoodIn wsL_law (wsV RL 42 RX5 yX5_wouldDone wsX5_wouldDone) := goodIn_app (goodIn_of _ (by decide +kernel)) ggL_law_X5_wouldDone
set_option maxRecDepth 20000 in
theorem zz_L_isLocked_0 : GoodIn wsL_law [.codeWith yL_isLocked cL_isLocked 5 (some .boolean) [(17, 26, 27, 80)]] := goodIn_r _ [588] (by decide +kernel) (by decide +kernel)
set_option maxRecDepth 20000 in
theorem zz_L_isLocked_1 : GoodIn wsL_law wsL_isLocked_r1 := goodIn_r _ [589, 3, 590, 591, 592, 593, 17, 594, 130, 131, 135, 136, 137, 479, 480, 481, 482, 36, 134, 190, 211, 212, 222, 103] (by decide +kernel) (by decide +kernel)
set_option maxRecDepth 20000 in
theorem zz_L_isLocked_2 : GoodIn wsL_law wsL_isLocked_r2 := goodIn_r _ [104, 132, 133, 483, 355, 484, 210, 138, 139, 140, 43, 141, 142, 191, 192, 193, 194, 195, 485, 256, 257, 258, 259, 260] (by decide +kernel) (by decide +kernel)
set_option maxRecDepth 20000 in
theorem zz_L_isLocked_3 : GoodIn wsL_law wsL_isLocked_r3 := goodIn_r _ [7, 261, 262, 6, 8, 172, 173, 174, 51, 175, 147, 73, 486, 487, 488, 55, 489, 109, 81, 301, 302, 303, 35, 304] (by decide +kernel) (by decide +kernel)
set_option maxRecDepth 20000 in
theorem zz_L_isLocked_4 : GoodIn wsL_law wsL_isLocked_r4 := goodIn_r _ [44, 57, 58, 305, 306, 307, 308, 595, 596, 597, 598, 599, 207, 208, 209, 101, 102] (by decide +kernel) (by decide +kernel)
set_option maxRecDepth 20000 in
theorem zz_L_isLocked_5 : GoodIn wsL_law wsX60 := goodIn_r _ [610, 611, 612, 613, 614, 615, 616, 617, 618, 619, 620, 621, 622, 623, 624, 625, 626, 627, 628, 629, 630, 631, 632] (by decide +kernel) (by decide +kernel)
set_option maxRecDepth 20000 in
theorem zz_L_isLocked_6 : GoodIn wsL_law wsX50 := goodIn_r _ [633, 634, 635, 636, 637, 638] (by decide +kernel) (by decide +kernel)
set_option maxRecDepth 20000 in
theorem zz_L_isLocked_7 : GoodIn wsL_law wsX10 := goodIn_r _ [639, 640, 641, 642, 643, 644, 645] (by decide +kernel) (by decide +kernel)
set_option maxRecDepth 20000 in
theorem zz_L_isLocked_8 : GoodIn wsL_law wsX40 := goodIn_r _ [646, 647, 648] (by decide +kernel) (by decide +kernel)
set_option maxRecDepth 20000 in
theorem zz_L_isLocked_9 : GoodIn wsL_law wsX30 := goodIn_r _ [649, 650, 651, 652, 653, 654] (by decide +kernel) (by decide +kernel)
set_option maxRecDepth 20000 in
theorem zz_L_isLocked_10 : GoodIn wsL_law wsX20 := goodIn_r _ [662, 663, 664, 665, 666] (by decide +kernel) (by decide +kernel)
set_option maxRecDepth 20000 in
theorem zz_L_isLocked_11 : GoodIn wsL_law wsX00 := goodIn_r _ [655, 656, 657, 658, 659, 660, 661] (by decide +kernel) (by decide +kernel)
set_option maxRecDepth 20000 in
theorem ggL_law_L_isLocked : GoodIn wsL_law wsL_isLocked := goodIn_ca (goodIn_ca ((zc_1 zz_L_isLocked_0 (goodIn_app (goodIn_app (goodIn_app (goodIn_app (goodIn_app (goodIn_app (goodIn_app (goodIn_app zz_L_isLocked_1 (goodIn_app zz_L_isLocked_2 (goodIn_app zz_L_isLocked_3 zz_L_isLocked_4))) zz_L_isLocked_5) zz_L_isLocked_6) zz_L_isLocked_7) zz_L_isLocked_8) zz_L_isLocked_9) zz_L_isLocked_10) zz_L_isLocked_11))) (goodIn_sub (fun _ h => List.mem_append_left _ (List.mem_append_right _ h)) (by decide +kernel))) (goodIn_sub (fun _ h => List.mem_append_left _ (List.mem_append_left _ (List.mem_append_right _ h))) (by decide +kernel))
set_option maxRecDepth 20000 in
theorem gL_law_L_isLocked : GoodIn wsL_law (va_wsS RL 45 yL_isLocked wsL_isLocked) := goodIn_app (goodIn_of _ (by decide +kernel)) ggL_law_L_isLocked
