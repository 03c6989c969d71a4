set_option maxRecDepth 20000 in
theorem zz_X7_give_0 : GoodIn wsL_law [.code yX7_give cX7_give 4 (some .int)] := goodIn_r _ [543] (by decide +kernel) (by decide +kernel)
set_option maxRecDepth 20000 in
theorem zz_X7_give_1 : GoodIn wsL_law wsX7_give_r1 := goodIn_r _ [129, 75, 435, 544, 545, 71, 131, 546, 373, 179, 374, 547, 441, 442, 443, 5, 444, 349, 350, 351, 74, 352, 353, 132] (by decide +kernel) (by decide +kernel)
set_option maxRecDepth 20000 in
theorem zz_X7_give_2 : GoodIn wsL_law wsX7_give_r2 := goodIn_r _ [133, 134, 135, 136, 137, 138, 445, 446, 447, 448, 449, 450, 451, 452, 453, 454, 455, 456, 457, 458, 459, 460, 92] (by decide +kernel) (by decide +kernel)
set_option maxRecDepth 20000 in
theorem zz_X7_give_3 : GoodIn wsL_law wsX70 := goodIn_r _ [1004, 1005, 1006, 1007, 1008, 1009, 1010] (by decide +kernel) (by decide +kernel)
set_option maxRecDepth 20000 in
theorem zz_X7_give_4 : GoodIn wsL_law wsX60 := goodIn_r _ [1039, 1040, 1041, 1042, 1043, 1044, 1045, 1046, 1047, 1048, 1049, 1050, 1051, 1052, 1053, 1054, 1055, 1056, 1057, 1058] (by decide +kernel) (by decide +kernel)
set_option maxRecDepth 20000 in
theorem zz_X7_give_5 : GoodIn wsL_law wsJx4a65c0 := goodIn_r _ [1059, 1060, 1061] (by decide +kernel) (by decide +kernel)
set_option maxRecDepth 20000 in
theorem ggL_law_X7_give : GoodIn wsL_law wsX7_give := (zc_1 zz_X7_give_0 (goodIn_app (goodIn_app (goodIn_app (goodIn_app zz_X7_give_1 zz_X7_give_2) zz_X7_give_3) zz_X7_give_4) zz_X7_give_5))
set_option maxRecDepth 20000 in
theorem gL_law_X7_give : GoodIn wsL_law (wsV RL 150 RX7 yX7_give wsX7_give) := goodIn_app (goodIn_of _ (by decide +kernel)) ggL_law_X7_give
set_option maxRecDepth 20000 in
theorem zz_L_pass_0 : GoodIn wsL_law [.codeWith yL_pass cL_pass 4 (some .int) [(0, 9, 12, 13), (0, 9, 15, 22)]] := goodIn_r _ [550] (by decide +kernel) (by decide +kernel)
set_option maxRecDepth 20000 in
theorem zz_L_pass_1 : GoodIn wsL_law wsL_pass_r1 := goodIn_r _ [107, 219, 551, 552, 553, 2, 554, 112, 113, 224, 225, 17, 114, 116, 333, 117, 118, 119, 555, 556, 557, 16, 558, 559] (by decide +kernel) (by decide +kernel)
set_option maxRecDepth 20000 in
theorem zz_L_pass_2 : GoodIn wsL_law wsL_pass_r2 := goodIn_r _ [560, 561, 562, 29, 25, 563, 37, 564, 33, 565, 566, 567, 158, 159, 24, 160, 161, 162, 163, 164, 165, 166, 167, 168] (by decide +kernel) (by decide +kernel)
set_option maxRecDepth 20000 in
theorem zz_L_pass_3 : GoodIn wsL_law wsL_pass_r3 := goodIn_r _ [169, 170, 171, 172, 121, 122, 123, 124, 173, 174, 175, 176, 177, 178, 179, 180, 181, 182, 183, 184, 185, 186, 187, 568] (by decide +kernel) (by decide +kernel)
set_option maxRecDepth 20000 in
theorem zz_L_pass_4 : GoodIn wsL_law wsL_pass_r4 := goodIn_r _ [569, 570, 28, 571, 572, 573, 574, 575, 576, 577, 578, 579, 580, 581, 582, 583, 584, 585, 586, 587, 588, 589, 590, 591] (by decide +kernel) (by decide +kernel)
set_option maxRecDepth 20000 in
theorem zz_L_pass_5 : GoodIn wsL_law wsL_pass_r5 := goodIn_r _ [592, 593, 594, 595, 596, 597, 598, 599, 600, 601, 268, 269, 270, 38, 39, 271, 272, 273, 274, 275, 602, 603, 604, 36] (by decide +kernel) (by decide +kernel)
set_option maxRecDepth 20000 in
theorem zz_L_pass_6 : GoodIn wsL_law wsL_pass_r6 := goodIn_r _ [605, 319, 62, 61, 606, 607, 608, 609, 60, 610, 420, 421, 32, 422, 343, 611, 612, 613, 614, 615, 616, 617, 618, 619] (by decide +kernel) (by decide +kernel)
set_option maxRecDepth 20000 in
theorem zz_L_pass_7 : GoodIn wsL_law wsL_pass_r7 := goodIn_r _ [620, 621, 55, 51, 54, 622, 623, 624, 625, 626, 627, 628, 629, 630, 631, 632, 633, 634, 635, 636, 63, 637, 638, 639] (by decide +kernel) (by decide +kernel)
set_option maxRecDepth 20000 in
theorem zz_L_pass_8 : GoodIn wsL_law wsL_pass_r8 := goodIn_r _ [640, 641, 642, 427, 428, 429, 430] (by decide +kernel) (by decide +kernel)
set_option maxRecDepth 20000 in
theorem zz_L_pass_9 : GoodIn wsL_law wsX50 := goodIn_r _ [998, 999, 1000, 1001, 1002, 1003] (by decide +kernel) (by decide +kernel)
set_option maxRecDepth 20000 in
theorem zz_L_pass_10 : GoodIn wsL_law wsX10 := goodIn_r _ [1011, 1012, 1013, 1014, 1015, 1016, 1017] (by decide +kernel) (by decide +kernel)
set_option maxRecDepth 20000 in
theorem zz_L_pass_11 : GoodIn wsL_law wsX40 := goodIn_r _ [1018, 1019, 1020] (by decide +kernel) (by decide +kernel)
set_option maxRecDepth 20000 in
theorem zz_L_pass_12 : GoodIn wsL_law wsX30 := goodIn_r _ [1021, 1022, 1023, 1024, 1025, 1026] (by decide +kernel) (by decide +kernel)
set_option maxRecDepth 20000 in
theorem zz_L_pass_13 : GoodIn wsL_law wsX20 := goodIn_r _ [1034, 1035, 1036, 1037, 1038] (by decide +kernel) (by decide +kernel)
set_option maxRecDepth 20000 in
theorem zz_L_pass_14 : GoodIn wsL_law wsX00 := goodIn_r _ [1027, 1028, 1029, 1030, 1031, 1032, 1033] (by decide +kernel) (by decide +kernel)
set_option maxRecDepth 20000 in
theorem ggL_law_L_pass : GoodIn wsL_law wsL_pass := goodIn_ca (goodIn_ca ((zc_1 zz_L_pass_0 (goodIn_app (goodIn_app (goodIn_app (goodIn_app (goodIn_app (goodIn_app (goodIn_app zz_L_pass_1 (goodIn_app zz_L_pass_2 (goodIn_app zz_L_pass_3 (goodIn_app zz_L_pass_4 (goodIn_app zz_L_pass_5 (goodIn_app zz_L_pass_6 (goodIn_app zz_L_pass_7 zz_L_pass_8))))))) zz_L_pass_9) zz_L_pass_10) zz_L_pass_11) zz_L_pass_12) zz_L_pass_13) zz_L_pass_14))) (goodIn_sub (fun _ h => List.mem_append_left _ (List.mem_append_left _ (List.mem_append_right _ h))) (by decide +kernel))) (goodIn_sub (fun _ h => List.mem_append_left _ (List.mem_append_right _ h)) (by decide +kernel))
set_option maxRecDepth 20000 in
theorem gL_law_L_pass : GoodIn wsL_law (va_wsS RL 151 yL_pass wsL_pass) := goodIn_app (goodIn_of _ (by decide +kernel)) ggL_law_L_pass
set_option maxRecDepth 20000 in
theorem zz_X7_pass_0 : GoodIn wsL_law [.code yX7_pass cX7_pass 3 (some .int)] := goodIn_r _ [646] (by decide +kernel) (by decide +kernel)
set_option maxRecDepth 20000 in
theorem zz_X7_pass_1 : GoodIn wsL_law wsX7_pass_r1 := goodIn_r _ [129, 71, 131, 132, 133, 5, 134, 135, 136, 137, 138, 647, 648, 649, 70, 650, 286, 651, 652, 202, 653, 654, 655, 656] (by decide +kernel) (by decide +kernel)
set_option maxRecDepth 20000 in
theorem zz_X7_pass_2 : GoodIn wsL_law wsX7_pass_r2 := goodIn_r _ [657, 658, 208, 659, 660, 661, 662, 663, 195, 196, 197, 198, 199, 200, 201, 203, 204, 205, 206, 207, 209, 210, 211, 212] (by decide +kernel) (by decide +kernel)
set_option maxRecDepth 20000 in
theorem zz_X7_pass_3 : GoodIn wsL_law wsX7_pass_r3 := goodIn_r _ [213, 182, 179, 183, 214, 178, 180, 215, 140, 141, 142, 143, 664, 665, 666, 667, 668, 669, 670, 497, 671, 672, 673, 674] (by decide +kernel) (by decide +kernel)
set_option maxRecDepth 20000 in
theorem zz_X7_pass_4 : GoodIn wsL_law wsX7_pass_r4 := goodIn_r _ [675, 676, 677, 678, 679, 520, 509, 510, 511, 680, 681, 682, 683, 684, 685, 686, 687, 83, 81, 82, 84, 688, 283, 284] (by decide +kernel) (by decide +kernel)
set_option maxRecDepth 20000 in
theorem zz_X7_pass_5 : GoodIn wsL_law wsX7_pass_r5 := goodIn_r _ [285, 287, 80, 689, 690, 691, 692, 78, 693, 85, 694, 695, 87, 696, 446, 447, 74, 448, 353, 449, 450, 451, 452, 453] (by decide +kernel) (by decide +kernel)
set_option maxRecDepth 20000 in
theorem zz_X7_pass_6 : GoodIn wsL_law wsX7_pass_r6 := goodIn_r _ [454, 455, 456, 457, 458, 459, 460, 92, 697, 698, 699, 700, 701, 702, 703, 75, 704, 435, 349, 350, 351, 352, 445, 461] (by decide +kernel) (by decide +kernel)
set_option maxRecDepth 20000 in
theorem zz_X7_pass_7 : GoodIn wsL_law wsX7_pass_r7 := goodIn_r _ [462, 463, 464] (by decide +kernel) (by decide +kernel)
set_option maxRecDepth 20000 in
theorem zz_X7_pass_8 : GoodIn wsL_law wsX70 := goodIn_r _ [1004, 1005, 1006, 1007, 1008, 1009, 1010] (by decide +kernel) (by decide +kernel)
set_option maxRecDepth 20000 in
theorem zz_X7_pass_9 : GoodIn wsL_law wsX60 := goodIn_r _ [1039, 1040, 1041, 1042, 1043, 1044, 1045, 1046, 1047, 1048, 1049, 1050, 1051, 1052, 1053, 1054, 1055, 1056, 1057, 1058] (by decide +kernel) (by decide +kernel)
set_option maxRecDepth 20000 in
theorem zz_X7_pass_10 : GoodIn wsL_law wsJx4a65c0 := goodIn_r _ [1059, 1060, 1061] (by decide +kernel) (by decide +kernel)
set_option maxRecDepth 20000 in
theorem ggL_law_X7_pass : GoodIn wsL_law wsX7_pass := (zc_1 zz_X7_pass_0 (goodIn_app (goodIn_app (goodIn_app (goodIn_app zz_X7_pass_1 (goodIn_app zz_X7_pass_2 (goodIn_app zz_X7_pass_3 (goodIn_app zz_X7_pass_4 (goodIn_app zz_X7_pass_5 (goodIn_app zz_X7_pass_6 zz_X7_pass_7)))))) zz_X7_pass_8) zz_X7_pass_9) zz_X7_pass_10))
set_option maxRecDepth 20000 in
theorem gL_law_X7_pass : GoodIn wsL_law (wsV RL 153 RX7 yX7_pass wsX7_pass) := goodIn_app (goodIn_of _ (by decide +kernel)) ggL_law_X7_pass
set_option maxRecDepth 20000 in
theorem zz_L_sea_0 : GoodIn wsL_law [.codeWith yL_sea cL_sea 4 (some .int) [(0, 8, 11, 13)]] := goodIn_r _ [707] (by decide +kernel) (by decide +kernel)
set_option maxRecDepth 20000 in
theorem zz_L_sea_1 : GoodIn wsL_law wsL_sea_r1 := goodIn_r _ [107, 708, 709, 710, 2, 711, 112, 113, 17, 114, 116, 117, 118, 119, 157, 158, 159, 24, 160, 161, 162, 163, 164, 165] (by decide +kernel) (by decide +kernel)
set_option maxRecDepth 20000 in
theorem zz_L_sea_2 : GoodIn wsL_law wsL_sea_r2 := goodIn_r _ [166, 167, 168, 169, 170, 171, 172, 121, 122, 123, 124, 173, 174, 175, 176, 177, 178, 179, 180, 181, 182, 183, 184, 185] (by decide +kernel) (by decide +kernel)
set_option maxRecDepth 20000 in
theorem zz_L_sea_3 : GoodIn wsL_law wsL_sea_r3 := goodIn_r _ [186, 187] (by decide +kernel) (by decide +kernel)
set_option maxRecDepth 20000 in
theorem zz_L_sea_4 : GoodIn wsL_law wsX50 := goodIn_r _ [998, 999, 1000, 1001, 1002, 1003] (by decide +kernel) (by decide +kernel)
set_option maxRecDepth 20000 in
theorem zz_L_sea_5 : GoodIn wsL_law wsX10 := goodIn_r _ [1011, 1012, 1013, 1014, 1015, 1016, 1017] (by decide +kernel) (by decide +kernel)
set_option maxRecDepth 20000 in
theorem zz_L_sea_6 : GoodIn wsL_law wsX40 := goodIn_r _ [1018, 1019, 1020] (by decide +kernel) (by decide +kernel)
set_option maxRecDepth 20000 in
theorem ggL_law_L_sea : GoodIn wsL_law wsL_sea := goodIn_ca ((zc_1 zz_L_sea_0 (goodIn_app (goodIn_app (goodIn_app (goodIn_app zz_L_sea_1 (goodIn_app zz_L_sea_2 zz_L_sea_3)) zz_L_sea_4) zz_L_sea_5) zz_L_sea_6))) (goodIn_sub (fun _ h => List.mem_append_left _ (List.mem_append_left _ (List.mem_append_right _ h))) (by decide +kernel))
set_option maxRecDepth 20000 in
theorem gL_law_L_sea : GoodIn wsL_law (va_wsS RL 154 yL_sea wsL_sea) := goodIn_app (goodIn_of _ (by decide +kernel)) ggL_law_L_sea
set_option maxRecDepth 20000 in
theorem zz_X7_sea_0 : GoodIn wsL_law [.code yX7_sea cX7_sea 2 (some .double)] := goodIn_r _ [715] (by decide +kernel) (by decide +kernel)
set_option maxRecDepth 20000 in
theorem zz_X7_sea_1 : GoodIn wsL_law wsX7_sea_r1 := goodIn_r _ [129, 71, 131, 132, 133, 5, 134, 135, 136, 137, 138, 194, 195, 196, 70, 197, 198, 199, 200, 201, 202, 203, 204, 205] (by decide +kernel) (by decide +kernel)
set_option maxRecDepth 20000 in
theorem zz_X7_sea_2 : GoodIn wsL_law wsX7_sea_r2 := goodIn_r _ [206, 207, 208, 209, 210, 211, 212, 213, 182, 179, 183, 214, 178, 180, 215, 140, 141, 142, 143] (by decide +kernel) (by decide +kernel)
set_option maxRecDepth 20000 in
theorem zz_X7_sea_3 : GoodIn wsL_law wsX70 := goodIn_r _ [1004, 1005, 1006, 1007, 1008, 1009, 1010] (by decide +kernel) (by decide +kernel)
set_option maxRecDepth 20000 in
theorem zz_X7_sea_4 : GoodIn wsL_law wsX60 := goodIn_r _ [1039, 1040, 1041, 1042, 1043, 1044, 1045, 1046, 1047, 1048, 1049, 1050, 1051, 1052, 1053, 1054, 1055, 1056, 1057, 1058] (by decide +kernel) (by decide +kernel)
set_option maxRecDepth 20000 in
theorem ggL_law_X7_sea : GoodIn wsL_law wsX7_sea := (zc_1 zz_X7_sea_0 (goodIn_app (goodIn_app (goodIn_app zz_X7_sea_1 zz_X7_sea_2) zz_X7_sea_3) zz_X7_sea_4))
set_option maxRecDepth 20000 in
theorem gL_law_X7_sea : GoodIn wsL_law (wsV RL 156 RX7 yX7_sea wsX7_sea) := goodIn_app (goodIn_of _ (by decide +kernel)) ggL_law_X7_sea
set_option maxRecDepth 20000 in
theorem zz_L_pond_0 : GoodIn wsL_law [.codeWith yL_pond cL_pond 4 (some .int) [(0, 8, 11, 13)]] := goodIn_r _ [718] (by decide +kernel) (by decide +kernel)
set_option maxRecDepth 20000 in
theorem zz_L_pond_1 : GoodIn wsL_law wsL_pond_r1 := goodIn_r _ [107, 719, 720, 721, 2, 722, 112, 113, 117, 118, 119, 723, 724, 725, 726, 17, 227, 727, 728, 729, 534, 114, 116, 730] (by decide +kernel) (by decide +kernel)
set_option maxRecDepth 20000 in
theorem zz_L_pond_2 : GoodIn wsL_law wsL_pond_r2 := goodIn_r _ [583, 584, 28, 585, 586, 579, 731, 167, 168, 24, 169, 170, 171, 172, 121, 122, 123, 124, 173, 174, 175, 176, 177, 178] (by decide +kernel) (by decide +kernel)
set_option maxRecDepth 20000 in
theorem zz_L_pond_3 : GoodIn wsL_law wsL_pond_r3 := goodIn_r _ [179, 180, 181, 182, 183] (by decide +kernel) (by decide +kernel)
set_option maxRecDepth 20000 in
theorem zz_L_pond_4 : GoodIn wsL_law wsX50 := goodIn_r _ [998, 999, 1000, 1001, 1002, 1003] (by decide +kernel) (by decide +kernel)
set_option maxRecDepth 20000 in
theorem zz_L_pond_5 : GoodIn wsL_law wsX10 := goodIn_r _ [1011, 1012, 1013, 1014, 1015, 1016, 1017] (by decide +kernel) (by decide +kernel)
set_option maxRecDepth 20000 in
theorem zz_L_pond_6 : GoodIn wsL_law wsX30 := goodIn_r _ [1021, 1022, 1023, 1024, 1025, 1026] (by decide +kernel) (by decide +kernel)
set_option maxRecDepth 20000 in
theorem zz_L_pond_7 : GoodIn wsL_law wsX40 := goodIn_r _ [1018, 1019, 1020] (by decide +kernel) (by decide +kernel)
set_option maxRecDepth 20000 in
theorem ggL_law_L_pond : GoodIn wsL_law wsL_pond := goodIn_ca ((zc_1 zz_L_pond_0 (goodIn_app (goodIn_app (goodIn_app (goodIn_app (goodIn_app zz_L_pond_1 (goodIn_app zz_L_pond_2 zz_L_pond_3)) zz_L_pond_4) zz_L_pond_5) zz_L_pond_6) zz_L_pond_7))) (goodIn_sub (fun _ h => List.mem_append_left _ (List.mem_append_left _ (List.mem_append_right _ h))) (by decide +kernel))
set_option maxRecDepth 20000 in
theorem gL_law_L_pond : GoodIn wsL_law (va_wsS RL 157 yL_pond wsL_pond) := goodIn_app (goodIn_of _ (by decide +kernel)) ggL_law_L_pond
set_option maxRecDepth 20000 in
theorem zz_X7_pond_0 : GoodIn wsL_law [.code yX7_pond cX7_pond 2 (some .double)] := goodIn_r _ [735] (by decide +kernel) (by decide +kernel)
set_option maxRecDepth 20000 in
theorem zz_X7_pond_1 : GoodIn wsL_law wsX7_pond_r1 := goodIn_r _ [129, 132, 133, 5, 134, 135, 136, 137, 138, 736, 737, 738, 739, 71, 740, 741, 742, 544, 131, 743, 665, 666, 70, 667] (by decide +kernel) (by decide +kernel)
set_option maxRecDepth 20000 in
theorem zz_X7_pond_2 : GoodIn wsL_law wsX7_pond_r2 := goodIn_r _ [668, 654, 744, 204, 205, 206, 207, 208, 209, 210, 211, 212, 213, 182, 179, 183, 214, 178, 180, 215, 140, 141, 142, 143] (by decide +kernel) (by decide +kernel)
set_option maxRecDepth 20000 in
theorem zz_X7_pond_3 : GoodIn wsL_law wsX70 := goodIn_r _ [1004, 1005, 1006, 1007, 1008, 1009, 1010] (by decide +kernel) (by decide +kernel)
set_option maxRecDepth 20000 in
theorem zz_X7_pond_4 : GoodIn wsL_law wsX60 := goodIn_r _ [1039, 1040, 1041, 1042, 1043, 1044, 1045, 1046, 1047, 1048, 1049, 1050, 1051, 1052, 1053, 1054, 1055, 1056, 1057, 1058] (by decide +kernel) (by decide +kernel)
set_option maxRecDepth 20000 in
theorem ggL_law_X7_pond : GoodIn wsL_law wsX7_pond := (zc_1 zz_X7_pond_0 (goodIn_app (goodIn_app (goodIn_app zz_X7_pond_1 zz_X7_pond_2) zz_X7_pond_3) zz_X7_pond_4))
set_option maxRecDepth 20000 in
theorem gL_law_X7_pond : GoodIn wsL_law (wsV RL 159 RX7 yX7_pond wsX7_pond) := goodIn_app (goodIn_of _ (by decide +kernel)) ggL_law_X7_pond
set_option maxRecDepth 20000 in
theorem ggL_law_L_ofPair : GoodIn wsL_law wsL_ofPair := goodIn_ca (goodIn_ca (goodIn_r _ [747, 406, 107, 748, 749, 750, 2, 751, 411, 412, 112, 113, 17, 313, 415, 416, 417, 36, 418, 319, 117, 118, 119, 752, 753, 754, 755, 414, 483, 756, 998, 999, 1000, 1001, 1002, 1003, 1011, 1012, 1013, 1014, 1015, 1016, 1017, 1034, 1035, 1036, 1037, 1038] (by decide +kernel) (by decide +kernel)) (goodIn_sub (fun _ h => List.mem_append_right _ h) (by decide +kernel))) (goodIn_sub (fun _ h => List.mem_append_left _ (List.mem_append_left _ (List.mem_append_right _ h))) (by decide +kernel))
set_option maxRecDepth 20000 in
theorem gL_law_L_ofPair : GoodIn wsL_law (va_wsS RL 160 yL_ofPair wsL_ofPair) := goodIn_app (goodIn_of _ (by decide +kernel)) ggL_law_L_ofPair
set_option maxRecDepth 20000 in
theorem ggL_law_X7_ofPair : GoodIn wsL_law wsX7_ofPair := goodIn_r _ [760, 129, 437, 438, 439, 5, 440, 71, 324, 132, 133, 134, 135, 136, 137, 138, 761, 762, 763, 764, 325, 436, 765, 1004, 1005, 1006, 1007, 1008, 1009, 1010, 1039, 1040, 1041, 1042, 1043, 1044, 1045, 1046, 1047, 1048, 1049, 1050, 1051, 1052, 1053, 1054, 1055, 1056, 1057, 1058] (by decide +kernel) (by decide +kernel)
set_option maxRecDepth 20000 in
theorem gL_law_X7_ofPair : GoodIn wsL_law (wsV RL 162 RX7 yX7_ofPair wsX7_ofPair) := goodIn_app (goodIn_of _ (by decide +kernel)) ggL_law_X7_ofPair
set_option maxRecDepth 20000 in
theorem ggL_law_L_dull : GoodIn wsL_law wsL_dull := goodIn_ca (goodIn_r _ [768, 406, 769, 770, 771, 2, 772, 411, 412, 17, 313, 485, 415, 416, 417, 36, 418, 319, 998, 999, 1000, 1001, 1002, 1003, 1011, 1012, 1013, 1014, 1015, 1016, 1017, 1034, 1035, 1036, 1037, 1038] (by decide +kernel) (by decide +kernel)) (goodIn_sub (fun _ h => List.mem_append_right _ h) (by decide +kernel))
set_option maxRecDepth 20000 in
theorem gL_law_L_dull : GoodIn wsL_law (va_wsS RL 163 yL_dull wsL_dull) := goodIn_app (goodIn_of _ (by decide +kernel)) ggL_law_L_dull
set_option maxRecDepth 20000 in
theorem ggL_law_X7_dull : GoodIn wsL_law wsX7_dull := goodIn_r _ [776, 129, 71, 494, 437, 438, 439, 5, 440, 324, 132, 133, 134, 135, 136, 137, 138, 1004, 1005, 1006, 1007, 1008, 1009, 1010, 1039, 1040, 1041, 1042, 1043, 1044, 1045, 1046, 1047, 1048, 1049, 1050, 1051, 1052, 1053, 1054, 1055, 1056, 1057, 1058] (by decide +kernel) (by decide +kernel)
set_option maxRecDepth 20000 in
theorem gL_law_X7_dull : GoodIn wsL_law (wsV RL 165 RX7 yX7_dull wsX7_dull) := goodIn_app (goodIn_of _ (by decide +kernel)) ggL_law_X7_dull
set_option maxRecDepth 20000 in
theorem zz_L_ofLot_0 : GoodIn wsL_law [.codeWith yL_ofLot cL_ofLot 5 (some .int) [(0, 10, 13, 43), (0, 10, 17, 13)]] := goodIn_r _ [779] (by decide +kernel) (by decide +kernel)
set_option maxRecDepth 20000 in
theorem zz_L_ofLot_1 : GoodIn wsL_law wsL_ofLot_r1 := goodIn_r _ [406, 107, 780, 781, 782, 2, 783, 411, 412, 112, 113, 17, 333, 419, 420, 421, 32, 422, 343, 117, 118, 119, 784, 785] (by decide +kernel) (by decide +kernel)
set_option maxRecDepth 20000 in
theorem zz_L_ofLot_2 : GoodIn wsL_law wsL_ofLot_r2 := goodIn_r _ [786, 787, 788, 533, 530, 531, 413, 313, 789, 790, 791, 36, 792, 319, 61] (by decide +kernel) (by decide +kernel)
set_option maxRecDepth 20000 in
theorem zz_L_ofLot_3 : GoodIn wsL_law wsX50 := goodIn_r _ [998, 999, 1000, 1001, 1002, 1003] (by decide +kernel) (by decide +kernel)
set_option maxRecDepth 20000 in
theorem zz_L_ofLot_4 : GoodIn wsL_law wsX10 := goodIn_r _ [1011, 1012, 1013, 1014, 1015, 1016, 1017] (by decide +kernel) (by decide +kernel)
set_option maxRecDepth 20000 in
theorem zz_L_ofLot_5 : GoodIn wsL_law wsX00 := goodIn_r _ [1027, 1028, 1029, 1030, 1031, 1032, 1033] (by decide +kernel) (by decide +kernel)
set_option maxRecDepth 20000 in
theorem zz_L_ofLot_6 : GoodIn wsL_law wsX20 := goodIn_r _ [1034, 1035, 1036, 1037, 1038] (by decide +kernel) (by decide +kernel)
set_option maxRecDepth 20000 in
theorem ggL_law_L_ofLot : GoodIn wsL_law wsL_ofLot := goodIn_ca (goodIn_ca ((zc_1 zz_L_ofLot_0 (goodIn_app (goodIn_app (goodIn_app (goodIn_app (goodIn_app zz_L_ofLot_1 zz_L_ofLot_2) zz_L_ofLot_3) zz_L_ofLot_4) zz_L_ofLot_5) zz_L_ofLot_6))) (goodIn_sub (fun _ h => List.mem_append_right _ h) (by decide +kernel))) (goodIn_sub (fun _ h => List.mem_append_left _ (List.mem_append_left _ (List.mem_append_right _ h))) (by decide +kernel))
set_option maxRecDepth 20000 in
theorem gL_law_L_ofLot : GoodIn wsL_law (va_wsS RL 166 yL_ofLot wsL_ofLot) := goodIn_app (goodIn_of _ (by decide +kernel)) ggL_law_L_ofLot
set_option maxRecDepth 20000 in
theorem zz_X7_ofLot_0 : GoodIn wsL_law [.code yX7_ofLot cX7_ofLot 3 (some .int)] := goodIn_r _ [796] (by decide +kernel) (by decide +kernel)
set_option maxRecDepth 20000 in
theorem zz_X7_ofLot_1 : GoodIn wsL_law wsX7_ofLot_r1 := goodIn_r _ [129, 441, 442, 443, 5, 444, 75, 349, 350, 351, 74, 352, 353, 132, 133, 134, 135, 136, 137, 138, 797, 798, 799, 800] (by decide +kernel) (by decide +kernel)
set_option maxRecDepth 20000 in
theorem zz_X7_ofLot_2 : GoodIn wsL_law wsX7_ofLot_r2 := goodIn_r _ [71, 435, 801, 802, 803, 70, 804, 661, 82, 445, 446, 447, 448, 449, 450, 451, 452, 453, 454, 455, 456, 457, 458, 459] (by decide +kernel) (by decide +kernel)
set_option maxRecDepth 20000 in
theorem zz_X7_ofLot_3 : GoodIn wsL_law wsX7_ofLot_r3 := goodIn_r _ [460, 92] (by decide +kernel) (by decide +kernel)
set_option maxRecDepth 20000 in
theorem zz_X7_ofLot_4 : GoodIn wsL_law wsX70 := goodIn_r _ [1004, 1005, 1006, 1007, 1008, 1009, 1010] (by decide +kernel) (by decide +kernel)
set_option maxRecDepth 20000 in
theorem zz_X7_ofLot_5 : GoodIn wsL_law wsJx4a65c0 := goodIn_r _ [1059, 1060, 1061] (by decide +kernel) (by decide +kernel)
set_option maxRecDepth 20000 in
theorem zz_X7_ofLot_6 : GoodIn wsL_law wsX60 := goodIn_r _ [1039, 1040, 1041, 1042, 1043, 1044, 1045, 1046, 1047, 1048, 1049, 1050, 1051, 1052, 1053, 1054, 1055, 1056, 1057, 1058] (by decide +kernel) (by decide +kernel)
set_option maxRecDepth 20000 in
theorem ggL_law_X7_ofLot : GoodIn wsL_law wsX7_ofLot := (zc_1 zz_X7_ofLot_0 (goodIn_app (goodIn_app (goodIn_app (goodIn_app zz_X7_ofLot_1 (goodIn_app zz_X7_ofLot_2 zz_X7_ofLot_3)) zz_X7_ofLot_4) zz_X7_ofLot_5) zz_X7_ofLot_6))
set_option maxRecDepth 20000 in
theorem gL_law_X7_ofLot : GoodIn wsL_law (wsV RL 168 RX7 yX7_ofLot wsX7_ofLot) := goodIn_app (goodIn_of _ (by decide +kernel)) ggL_law_X7_ofLot
set_option maxRecDepth 20000 in
theorem ggL_law_L_left : GoodIn wsL_law wsL_left := goodIn_ca (goodIn_r _ [807, 406, 808, 809, 810, 2, 811, 411, 412, 17, 333, 812, 419, 420, 421, 32, 422, 343, 998, 999, 1000, 1001, 1002, 1003, 1011, 1012, 1013, 1014, 1015, 1016, 1017, 1027, 1028, 1029, 1030, 1031, 1032, 1033] (by decide +kernel) (by decide +kernel)) (goodIn_sub (fun _ h => List.mem_append_right _ h) (by decide +kernel))
set_option maxRecDepth 20000 in
theorem gL_law_L_left : GoodIn wsL_law (va_wsS RL 169 yL_left wsL_left) := goodIn_app (goodIn_of _ (by decide +kernel)) ggL_law_L_left
set_option maxRecDepth 20000 in
theorem ggL_law_X7_left : GoodIn wsL_law wsX7_left := goodIn_r _ [816, 129, 71, 348, 441, 442, 443, 5, 444, 75, 349, 350, 351, 74, 352, 353, 132, 133, 134, 135, 136, 137, 138, 1004, 1005, 1006, 1007, 1008, 1009, 1010, 1039, 1040, 1041, 1042, 1043, 1044, 1045, 1046, 1047, 1048, 1049, 1050, 1051, 1052, 1053, 1054, 1055, 1056, 1057, 1058, 1059, 1060, 1061] (by decide +kernel) (by decide +kernel)
set_option maxRecDepth 20000 in
theorem gL_law_X7_left : GoodIn wsL_law (wsV RL 171 RX7 yX7_left wsX7_left) := goodIn_app (goodIn_of _ (by decide +kernel)) ggL_law_X7_left
