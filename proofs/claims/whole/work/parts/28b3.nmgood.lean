set_option maxRecDepth 20000 in
theorem zz_L_many_0 : GoodIn wsL_law [.codeWith yL_many cL_many 4 (some .int) [(0, 9, 12, 13)]] := goodIn_r _ [819] (by decide +kernel) (by decide +kernel)
set_option maxRecDepth 20000 in
theorem zz_L_many_1 : GoodIn wsL_law wsL_many_r1 := goodIn_r _ [107, 820, 821, 822, 2, 823, 112, 113, 117, 118, 119, 824, 825, 826, 827, 17, 114, 116, 227, 228, 242, 313, 314, 333] (by decide +kernel) (by decide +kernel)
set_option maxRecDepth 20000 in
theorem zz_L_many_2 : GoodIn wsL_law wsL_many_r2 := goodIn_r _ [334, 828, 536, 300, 226, 335, 336, 337, 24, 338, 275, 120, 121, 122, 123, 124, 829, 174, 175, 176, 177, 178, 179, 180] (by decide +kernel) (by decide +kernel)
set_option maxRecDepth 20000 in
theorem zz_L_many_3 : GoodIn wsL_law wsL_many_r3 := goodIn_r _ [181, 182, 183, 427, 428, 429, 32, 430, 343, 54, 830, 831, 832, 36, 833, 319, 63, 267, 268, 269, 16, 270, 25, 38] (by decide +kernel) (by decide +kernel)
set_option maxRecDepth 20000 in
theorem zz_L_many_4 : GoodIn wsL_law wsL_many_r4 := goodIn_r _ [39, 271, 272, 273, 274] (by decide +kernel) (by decide +kernel)
set_option maxRecDepth 20000 in
theorem zz_L_many_5 : GoodIn wsL_law wsX50 := goodIn_r _ [998, 999, 1000, 1001, 1002, 1003] (by decide +kernel) (by decide +kernel)
set_option maxRecDepth 20000 in
theorem zz_L_many_6 : GoodIn wsL_law wsX10 := goodIn_r _ [1011, 1012, 1013, 1014, 1015, 1016, 1017] (by decide +kernel) (by decide +kernel)
set_option maxRecDepth 20000 in
theorem zz_L_many_7 : GoodIn wsL_law wsX40 := goodIn_r _ [1018, 1019, 1020] (by decide +kernel) (by decide +kernel)
set_option maxRecDepth 20000 in
theorem zz_L_many_8 : GoodIn wsL_law wsX30 := goodIn_r _ [1021, 1022, 1023, 1024, 1025, 1026] (by decide +kernel) (by decide +kernel)
set_option maxRecDepth 20000 in
theorem zz_L_many_9 : GoodIn wsL_law wsX20 := goodIn_r _ [1034, 1035, 1036, 1037, 1038] (by decide +kernel) (by decide +kernel)
set_option maxRecDepth 20000 in
theorem zz_L_many_10 : GoodIn wsL_law wsX00 := goodIn_r _ [1027, 1028, 1029, 1030, 1031, 1032, 1033] (by decide +kernel) (by decide +kernel)
set_option maxRecDepth 20000 in
theorem ggL_law_L_many : GoodIn wsL_law wsL_many := goodIn_ca ((zc_1 zz_L_many_0 (goodIn_app (goodIn_app (goodIn_app (goodIn_app (goodIn_app (goodIn_app (goodIn_app zz_L_many_1 (goodIn_app zz_L_many_2 (goodIn_app zz_L_many_3 zz_L_many_4))) zz_L_many_5) zz_L_many_6) zz_L_many_7) zz_L_many_8) zz_L_many_9) zz_L_many_10))) (goodIn_sub (fun _ h => List.mem_append_left _ (List.mem_append_left _ (List.mem_append_right _ h))) (by decide +kernel))
set_option maxRecDepth 20000 in
theorem gL_law_L_many : GoodIn wsL_law (va_wsS RL 172 yL_many wsL_many) := goodIn_app (goodIn_of _ (by decide +kernel)) ggL_law_L_many
set_option maxRecDepth 20000 in
theorem zz_X7_many_0 : GoodIn wsL_law [.code yX7_many cX7_many 2 (some .int)] := goodIn_r _ [837] (by decide +kernel) (by decide +kernel)
set_option maxRecDepth 20000 in
theorem zz_X7_many_1 : GoodIn wsL_law wsX7_many_r1 := goodIn_r _ [129, 132, 133, 5, 134, 135, 136, 137, 138, 838, 839, 840, 841, 71, 765, 49, 131, 234, 247, 324, 75, 842, 547, 305] (by decide +kernel) (by decide +kernel)
set_option maxRecDepth 20000 in
theorem zz_X7_many_2 : GoodIn wsL_law wsX7_many_r2 := goodIn_r _ [233, 139, 140, 141, 70, 142, 143, 843, 210, 211, 212, 213, 182, 179, 183, 214, 178, 180, 215, 349, 350, 351, 74, 352] (by decide +kernel) (by decide +kernel)
set_option maxRecDepth 20000 in
theorem zz_X7_many_3 : GoodIn wsL_law wsX7_many_r3 := goodIn_r _ [353, 461, 462, 463, 464, 435, 445, 446, 447, 448, 449, 450, 451, 452, 453, 454, 455, 456, 457, 458, 459, 460, 92, 282] (by decide +kernel) (by decide +kernel)
set_option maxRecDepth 20000 in
theorem zz_X7_many_4 : GoodIn wsL_law wsX7_many_r4 := goodIn_r _ [283, 284, 285, 286, 287, 80] (by decide +kernel) (by decide +kernel)
set_option maxRecDepth 20000 in
theorem zz_X7_many_5 : GoodIn wsL_law wsX70 := goodIn_r _ [1004, 1005, 1006, 1007, 1008, 1009, 1010] (by decide +kernel) (by decide +kernel)
set_option maxRecDepth 20000 in
theorem zz_X7_many_6 : GoodIn wsL_law wsX60 := goodIn_r _ [1039, 1040, 1041, 1042, 1043, 1044, 1045, 1046, 1047, 1048, 1049, 1050, 1051, 1052, 1053, 1054, 1055, 1056, 1057, 1058] (by decide +kernel) (by decide +kernel)
set_option maxRecDepth 20000 in
theorem zz_X7_many_7 : GoodIn wsL_law wsJx4a65c0 := goodIn_r _ [1059, 1060, 1061] (by decide +kernel) (by decide +kernel)
set_option maxRecDepth 20000 in
theorem ggL_law_X7_many : GoodIn wsL_law wsX7_many := (zc_1 zz_X7_many_0 (goodIn_app (goodIn_app (goodIn_app (goodIn_app zz_X7_many_1 (goodIn_app zz_X7_many_2 (goodIn_app zz_X7_many_3 zz_X7_many_4))) zz_X7_many_5) zz_X7_many_6) zz_X7_many_7))
set_option maxRecDepth 20000 in
theorem gL_law_X7_many : GoodIn wsL_law (wsV RL 174 RX7 yX7_many wsX7_many) := goodIn_app (goodIn_of _ (by decide +kernel)) ggL_law_X7_many
set_option maxRecDepth 20000 in
theorem ggL_law_L_ofOwner : GoodIn wsL_law wsL_ofOwner := goodIn_ca (goodIn_r _ [846, 406, 847, 848, 849, 2, 850, 411, 412, 17, 333, 117, 118, 119, 851, 852, 853, 32, 854, 343, 50, 54, 52, 998, 999, 1000, 1001, 1002, 1003, 1011, 1012, 1013, 1014, 1015, 1016, 1017, 1027, 1028, 1029, 1030, 1031, 1032, 1033] (by decide +kernel) (by decide +kernel)) (goodIn_sub (fun _ h => List.mem_append_right _ h) (by decide +kernel))
set_option maxRecDepth 20000 in
theorem gL_law_L_ofOwner : GoodIn wsL_law (va_wsS RL 175 yL_ofOwner wsL_ofOwner) := goodIn_app (goodIn_of _ (by decide +kernel)) ggL_law_L_ofOwner
set_option maxRecDepth 20000 in
theorem ggL_law_X7_ofOwner : GoodIn wsL_law wsX7_ofOwner := goodIn_r _ [858, 129, 132, 133, 5, 134, 135, 136, 137, 138, 859, 860, 861, 862, 75, 435, 349, 350, 351, 74, 352, 353, 445, 446, 447, 448, 449, 450, 451, 452, 453, 454, 455, 456, 457, 458, 459, 460, 92, 1004, 1005, 1006, 1007, 1008, 1009, 1010, 1059, 1060, 1061] (by decide +kernel) (by decide +kernel)
set_option maxRecDepth 20000 in
theorem gL_law_X7_ofOwner : GoodIn wsL_law (wsV RL 178 RX7 yX7_ofOwner wsX7_ofOwner) := goodIn_app (goodIn_of _ (by decide +kernel)) ggL_law_X7_ofOwner
set_option maxRecDepth 20000 in
theorem ggL_law_X5_high : GoodIn wsL_law wsX5_high := goodIn_r _ [866, 17, 114, 867, 868, 869, 24, 870, 275, 161, 871, 184, 185, 186, 187, 170, 998, 999, 1000, 1001, 1002, 1003, 1011, 1012, 1013, 1014, 1015, 1016, 1017, 1018, 1019, 1020] (by decide +kernel) (by decide +kernel)
set_option maxRecDepth 20000 in
theorem gL_law_X5_high : GoodIn wsL_law (wsV RL 179 RX5 yX5_high wsX5_high) := goodIn_app (goodIn_of _ (by decide +kernel)) ggL_law_X5_high
set_option maxRecDepth 20000 in
theorem ggL_law_X7_high : GoodIn wsL_law wsX7_high := goodIn_r _ [875, 129, 876, 877, 878, 5, 879, 71, 131, 880, 881, 882, 1004, 1005, 1006, 1007, 1008, 1009, 1010, 1039, 1040, 1041, 1042, 1043, 1044, 1045, 1046, 1047, 1048, 1049, 1050, 1051, 1052, 1053, 1054, 1055, 1056, 1057, 1058] (by decide +kernel) (by decide +kernel)
set_option maxRecDepth 20000 in
theorem gL_law_X7_high : GoodIn wsL_law (wsV RL 182 RX7 yX7_high wsX7_high) := goodIn_app (goodIn_of _ (by decide +kernel)) ggL_law_X7_high
set_option maxRecDepth 20000 in
theorem zz_L_wouldLevel_0 : GoodIn wsL_law [.codeWith yL_wouldLevel cL_wouldLevel 4 (some .int) [(0, 8, 11, 13)]] := goodIn_r _ [885] (by decide +kernel) (by decide +kernel)
set_option maxRecDepth 20000 in
theorem zz_L_wouldLevel_1 : GoodIn wsL_law wsL_wouldLevel_r1 := goodIn_r _ [107, 886, 887, 888, 2, 889, 112, 113, 18, 17, 227, 727, 117, 118, 119, 890, 891, 892, 16, 893, 25, 29, 33, 37] (by decide +kernel) (by decide +kernel)
set_option maxRecDepth 20000 in
theorem zz_L_wouldLevel_2 : GoodIn wsL_law wsL_wouldLevel_r2 := goodIn_r _ [38, 39, 565, 894, 895, 896, 24, 897, 275, 124, 164, 898, 899, 900, 28, 901, 577, 579, 576, 593, 599, 592, 902, 903] (by decide +kernel) (by decide +kernel)
set_option maxRecDepth 20000 in
theorem zz_L_wouldLevel_3 : GoodIn wsL_law wsL_wouldLevel_r3 := goodIn_r _ [904, 32, 905, 50, 906, 400, 401, 402, 51, 52, 53, 54, 55, 343, 907, 908, 909, 36, 910, 60, 911, 61, 62, 63] (by decide +kernel) (by decide +kernel)
set_option maxRecDepth 20000 in
theorem zz_L_wouldLevel_4 : GoodIn wsL_law wsL_wouldLevel_r4 := goodIn_r _ [319, 555, 556, 557, 558, 559, 560, 561, 562, 563, 564, 566, 567, 158, 159, 160, 161, 162, 163, 165, 166, 167, 168, 169] (by decide +kernel) (by decide +kernel)
set_option maxRecDepth 20000 in
theorem zz_L_wouldLevel_5 : GoodIn wsL_law wsL_wouldLevel_r5 := goodIn_r _ [170, 171, 172, 121, 122, 123, 173, 174, 175, 176, 177, 178, 179, 180, 181, 182, 183, 184, 185, 186, 187, 568, 569, 570] (by decide +kernel) (by decide +kernel)
set_option maxRecDepth 20000 in
theorem zz_L_wouldLevel_6 : GoodIn wsL_law wsL_wouldLevel_r6 := goodIn_r _ [571, 572, 573, 574, 575, 578, 580, 581, 582, 583, 584, 585, 586, 587, 588, 589, 590, 591, 594, 595, 596, 597, 598, 600] (by decide +kernel) (by decide +kernel)
set_option maxRecDepth 20000 in
theorem zz_L_wouldLevel_7 : GoodIn wsL_law wsL_wouldLevel_r7 := goodIn_r _ [601, 268, 269, 270, 271, 272, 273, 274, 602, 603, 604, 605, 606, 607, 608, 609, 610, 420, 421, 422, 611, 612, 613, 614] (by decide +kernel) (by decide +kernel)
set_option maxRecDepth 20000 in
theorem zz_L_wouldLevel_8 : GoodIn wsL_law wsL_wouldLevel_r8 := goodIn_r _ [615, 616, 617, 618, 619, 620, 621, 622, 623, 624, 625, 626, 627, 628, 629, 630, 631, 632, 633, 634, 635, 636, 637, 638] (by decide +kernel) (by decide +kernel)
set_option maxRecDepth 20000 in
theorem zz_L_wouldLevel_9 : GoodIn wsL_law wsL_wouldLevel_r9 := goodIn_r _ [639, 640, 641, 642] (by decide +kernel) (by decide +kernel)
set_option maxRecDepth 20000 in
theorem zz_L_wouldLevel_10 : GoodIn wsL_law wsX50 := goodIn_r _ [998, 999, 1000, 1001, 1002, 1003] (by decide +kernel) (by decide +kernel)
set_option maxRecDepth 20000 in
theorem zz_L_wouldLevel_11 : GoodIn wsL_law wsX10 := goodIn_r _ [1011, 1012, 1013, 1014, 1015, 1016, 1017] (by decide +kernel) (by decide +kernel)
set_option maxRecDepth 20000 in
theorem zz_L_wouldLevel_12 : GoodIn wsL_law wsX30 := goodIn_r _ [1021, 1022, 1023, 1024, 1025, 1026] (by decide +kernel) (by decide +kernel)
set_option maxRecDepth 20000 in
theorem zz_L_wouldLevel_13 : GoodIn wsL_law wsX40 := goodIn_r _ [1018, 1019, 1020] (by decide +kernel) (by decide +kernel)
set_option maxRecDepth 20000 in
theorem zz_L_wouldLevel_14 : GoodIn wsL_law wsX00 := goodIn_r _ [1027, 1028, 1029, 1030, 1031, 1032, 1033] (by decide +kernel) (by decide +kernel)
set_option maxRecDepth 20000 in
theorem zz_L_wouldLevel_15 : GoodIn wsL_law wsX20 := goodIn_r _ [1034, 1035, 1036, 1037, 1038] (by decide +kernel) (by decide +kernel)
set_option maxRecDepth 20000 in
theorem ggL_law_L_wouldLevel : GoodIn wsL_law wsL_wouldLevel := goodIn_ca ((zc_1 zz_L_wouldLevel_0 (goodIn_app (goodIn_app (goodIn_app (goodIn_app (goodIn_app (goodIn_app (goodIn_app zz_L_wouldLevel_1 (goodIn_app zz_L_wouldLevel_2 (goodIn_app zz_L_wouldLevel_3 (goodIn_app zz_L_wouldLevel_4 (goodIn_app zz_L_wouldLevel_5 (goodIn_app zz_L_wouldLevel_6 (goodIn_app zz_L_wouldLevel_7 (goodIn_app zz_L_wouldLevel_8 zz_L_wouldLevel_9)))))))) zz_L_wouldLevel_10) zz_L_wouldLevel_11) zz_L_wouldLevel_12) zz_L_wouldLevel_13) zz_L_wouldLevel_14) zz_L_wouldLevel_15))) (goodIn_sub (fun _ h => List.mem_append_left _ (List.mem_append_left _ (List.mem_append_right _ h))) (by decide +kernel))
set_option maxRecDepth 20000 in
theorem gL_law_L_wouldLevel : GoodIn wsL_law (va_wsS RL 183 yL_wouldLevel wsL_wouldLevel) := goodIn_app (goodIn_of _ (by decide +kernel)) ggL_law_L_wouldLevel
set_option maxRecDepth 20000 in
theorem zz_X7_wouldLevel_0 : GoodIn wsL_law [.code yX7_wouldLevel cX7_wouldLevel 4 (some .double)] := goodIn_r _ [915] (by decide +kernel) (by decide +kernel)
set_option maxRecDepth 20000 in
theorem zz_X7_wouldLevel_1 : GoodIn wsL_law wsX7_wouldLevel_r1 := goodIn_r _ [129, 71, 740, 132, 133, 5, 134, 135, 136, 137, 138, 916, 917, 918, 70, 919, 920, 69, 78, 286, 143, 201, 652, 654] (by decide +kernel) (by decide +kernel)
set_option maxRecDepth 20000 in
theorem zz_X7_wouldLevel_2 : GoodIn wsL_law wsX7_wouldLevel_r2 := goodIn_r _ [651, 658, 659, 287, 80, 661, 81, 921, 400, 401, 402, 82, 83, 85, 87, 922, 76, 77, 79, 12, 13, 59, 49, 84] (by decide +kernel) (by decide +kernel)
set_option maxRecDepth 20000 in
theorem zz_X7_wouldLevel_3 : GoodIn wsL_law wsX7_wouldLevel_r3 := goodIn_r _ [7, 86, 647, 648, 649, 650, 202, 653, 655, 656, 657, 208, 660, 662, 663, 195, 196, 197, 198, 199, 200, 203, 204, 205] (by decide +kernel) (by decide +kernel)
set_option maxRecDepth 20000 in
theorem zz_X7_wouldLevel_4 : GoodIn wsL_law wsX7_wouldLevel_r4 := goodIn_r _ [206, 207, 209, 210, 211, 212, 213, 182, 179, 183, 214, 178, 180, 215, 140, 141, 142, 664, 665, 666, 667, 668, 669, 670] (by decide +kernel) (by decide +kernel)
set_option maxRecDepth 20000 in
theorem zz_X7_wouldLevel_5 : GoodIn wsL_law wsX7_wouldLevel_r5 := goodIn_r _ [497, 671, 672, 673, 674, 675, 676, 677, 678, 679, 520, 509, 510, 511, 680, 681, 682, 683, 684, 685, 686, 687, 688, 283] (by decide +kernel) (by decide +kernel)
set_option maxRecDepth 20000 in
theorem zz_X7_wouldLevel_6 : GoodIn wsL_law wsX7_wouldLevel_r6 := goodIn_r _ [284, 285, 689, 690, 691, 692, 693, 694, 695, 696, 446, 447, 74, 448, 353, 449, 450, 451, 452, 453, 454, 455, 456, 457] (by decide +kernel) (by decide +kernel)
set_option maxRecDepth 20000 in
theorem zz_X7_wouldLevel_7 : GoodIn wsL_law wsX7_wouldLevel_r7 := goodIn_r _ [458, 459, 460, 92, 697, 698, 699] (by decide +kernel) (by decide +kernel)
set_option maxRecDepth 20000 in
theorem zz_X7_wouldLevel_8 : GoodIn wsL_law wsX70 := goodIn_r _ [1004, 1005, 1006, 1007, 1008, 1009, 1010] (by decide +kernel) (by decide +kernel)
set_option maxRecDepth 20000 in
theorem zz_X7_wouldLevel_9 : GoodIn wsL_law wsX60 := goodIn_r _ [1039, 1040, 1041, 1042, 1043, 1044, 1045, 1046, 1047, 1048, 1049, 1050, 1051, 1052, 1053, 1054, 1055, 1056, 1057, 1058] (by decide +kernel) (by decide +kernel)
set_option maxRecDepth 20000 in
theorem zz_X7_wouldLevel_10 : GoodIn wsL_law wsJx4a65c0 := goodIn_r _ [1059, 1060, 1061] (by decide +kernel) (by decide +kernel)
set_option maxRecDepth 20000 in
theorem ggL_law_X7_wouldLevel : GoodIn wsL_law wsX7_wouldLevel := (zc_1 zz_X7_wouldLevel_0 (goodIn_app (goodIn_app (goodIn_app (goodIn_app zz_X7_wouldLevel_1 (goodIn_app zz_X7_wouldLevel_2 (goodIn_app zz_X7_wouldLevel_3 (goodIn_app zz_X7_wouldLevel_4 (goodIn_app zz_X7_wouldLevel_5 (goodIn_app zz_X7_wouldLevel_6 zz_X7_wouldLevel_7)))))) zz_X7_wouldLevel_8) zz_X7_wouldLevel_9) zz_X7_wouldLevel_10))
set_option maxRecDepth 20000 in
theorem gL_law_X7_wouldLevel : GoodIn wsL_law (wsV RL 185 RX7 yX7_wouldLevel wsX7_wouldLevel) := goodIn_app (goodIn_of _ (by decide +kernel)) ggL_law_X7_wouldLevel
set_option maxRecDepth 20000 in
theorem zz_L_wouldDone_0 : GoodIn wsL_law [.codeWith yL_wouldDone cL_wouldDone 4 (some .int) [(0, 9, 12, 43)]] := goodIn_r _ [925] (by decide +kernel) (by decide +kernel)
set_option maxRecDepth 20000 in
theorem zz_L_wouldDone_1 : GoodIn wsL_law wsL_wouldDone_r1 := goodIn_r _ [406, 926, 927, 928, 2, 929, 411, 412, 17, 333, 419, 420, 421, 32, 422, 343, 930, 931, 932, 933, 413, 18, 890, 891] (by decide +kernel) (by decide +kernel)
set_option maxRecDepth 20000 in
theorem zz_L_wouldDone_2 : GoodIn wsL_law wsL_wouldDone_r2 := goodIn_r _ [892, 16, 893, 25, 29, 33, 37, 38, 39, 565, 894, 895, 896, 24, 897, 275, 124, 164, 898, 899, 900, 28, 901, 577] (by decide +kernel) (by decide +kernel)
set_option maxRecDepth 20000 in
theorem zz_L_wouldDone_3 : GoodIn wsL_law wsL_wouldDone_r3 := goodIn_r _ [579, 576, 593, 599, 592, 902, 903, 904, 905, 50, 906, 400, 401, 402, 51, 52, 53, 54, 55, 907, 908, 909, 36, 910] (by decide +kernel) (by decide +kernel)
set_option maxRecDepth 20000 in
theorem zz_L_wouldDone_4 : GoodIn wsL_law wsL_wouldDone_r4 := goodIn_r _ [60, 911, 61, 62, 63, 319, 934, 560, 561, 562, 563, 564, 566, 567, 158, 159, 160, 161, 162, 163, 165, 166, 167, 168] (by decide +kernel) (by decide +kernel)
set_option maxRecDepth 20000 in
theorem zz_L_wouldDone_5 : GoodIn wsL_law wsL_wouldDone_r5 := goodIn_r _ [169, 170, 171, 172, 121, 122, 123, 173, 174, 175, 176, 177, 178, 179, 180, 181, 182, 183, 184, 185, 186, 187, 568, 569] (by decide +kernel) (by decide +kernel)
set_option maxRecDepth 20000 in
theorem zz_L_wouldDone_6 : GoodIn wsL_law wsL_wouldDone_r6 := goodIn_r _ [570, 571, 572, 573, 574, 575, 578, 580, 581, 582, 583, 584, 585, 586, 587, 588, 589, 590, 591, 594, 595, 596, 597, 598] (by decide +kernel) (by decide +kernel)
set_option maxRecDepth 20000 in
theorem zz_L_wouldDone_7 : GoodIn wsL_law wsL_wouldDone_r7 := goodIn_r _ [600, 601, 268, 269, 270, 271, 272, 273, 274, 602, 603, 604, 605, 606, 607, 608, 609, 610, 611, 612, 613, 614, 615, 616] (by decide +kernel) (by decide +kernel)
set_option maxRecDepth 20000 in
theorem zz_L_wouldDone_8 : GoodIn wsL_law wsL_wouldDone_r8 := goodIn_r _ [617, 618, 619, 620, 621, 622, 623, 624, 625, 626, 627, 628, 629, 630, 631, 632, 633, 634, 635, 636, 637, 638, 639, 640] (by decide +kernel) (by decide +kernel)
set_option maxRecDepth 20000 in
theorem zz_L_wouldDone_9 : GoodIn wsL_law wsL_wouldDone_r9 := goodIn_r _ [641, 642] (by decide +kernel) (by decide +kernel)
set_option maxRecDepth 20000 in
theorem zz_L_wouldDone_10 : GoodIn wsL_law wsX50 := goodIn_r _ [998, 999, 1000, 1001, 1002, 1003] (by decide +kernel) (by decide +kernel)
set_option maxRecDepth 20000 in
theorem zz_L_wouldDone_11 : GoodIn wsL_law wsX10 := goodIn_r _ [1011, 1012, 1013, 1014, 1015, 1016, 1017] (by decide +kernel) (by decide +kernel)
set_option maxRecDepth 20000 in
theorem zz_L_wouldDone_12 : GoodIn wsL_law wsX00 := goodIn_r _ [1027, 1028, 1029, 1030, 1031, 1032, 1033] (by decide +kernel) (by decide +kernel)
set_option maxRecDepth 20000 in
theorem zz_L_wouldDone_13 : GoodIn wsL_law wsX40 := goodIn_r _ [1018, 1019, 1020] (by decide +kernel) (by decide +kernel)
set_option maxRecDepth 20000 in
theorem zz_L_wouldDone_14 : GoodIn wsL_law wsX30 := goodIn_r _ [1021, 1022, 1023, 1024, 1025, 1026] (by decide +kernel) (by decide +kernel)
set_option maxRecDepth 20000 in
theorem zz_L_wouldDone_15 : GoodIn wsL_law wsX20 := goodIn_r _ [1034, 1035, 1036, 1037, 1038] (by decide +kernel) (by decide +kernel)
set_option maxRecDepth 20000 in
theorem ggL_law_L_wouldDone : GoodIn wsL_law wsL_wouldDone := goodIn_ca ((zc_1 zz_L_wouldDone_0 (goodIn_app (goodIn_app (goodIn_app (goodIn_app (goodIn_app (goodIn_app (goodIn_app zz_L_wouldDone_1 (goodIn_app zz_L_wouldDone_2 (goodIn_app zz_L_wouldDone_3 (goodIn_app zz_L_wouldDone_4 (goodIn_app zz_L_wouldDone_5 (goodIn_app zz_L_wouldDone_6 (goodIn_app zz_L_wouldDone_7 (goodIn_app zz_L_wouldDone_8 zz_L_wouldDone_9)))))))) zz_L_wouldDone_10) zz_L_wouldDone_11) zz_L_wouldDone_12) zz_L_wouldDone_13) zz_L_wouldDone_14) zz_L_wouldDone_15))) (goodIn_sub (fun _ h => List.mem_append_right _ h) (by decide +kernel))
set_option maxRecDepth 20000 in
theorem gL_law_L_wouldDone : GoodIn wsL_law (va_wsS RL 186 yL_wouldDone wsL_wouldDone) := goodIn_app (goodIn_of _ (by decide +kernel)) ggL_law_L_wouldDone
set_option maxRecDepth 20000 in
theorem zz_X7_wouldDone_0 : GoodIn wsL_law [.code yX7_wouldDone cX7_wouldDone 2 (some .int)] := goodIn_r _ [938] (by decide +kernel) (by decide +kernel)
set_option maxRecDepth 20000 in
theorem zz_X7_wouldDone_1 : GoodIn wsL_law wsX7_wouldDone_r1 := goodIn_r _ [129, 441, 442, 443, 5, 444, 75, 349, 350, 351, 74, 352, 353, 132, 133, 134, 135, 136, 137, 138, 939, 940, 941, 942] (by decide +kernel) (by decide +kernel)
set_option maxRecDepth 20000 in
theorem zz_X7_wouldDone_2 : GoodIn wsL_law wsX7_wouldDone_r2 := goodIn_r _ [435, 71, 704, 445, 446, 447, 448, 449, 450, 451, 452, 453, 454, 455, 456, 457, 458, 459, 460, 92, 916, 917, 918, 70] (by decide +kernel) (by decide +kernel)
set_option maxRecDepth 20000 in
theorem zz_X7_wouldDone_3 : GoodIn wsL_law wsX7_wouldDone_r3 := goodIn_r _ [919, 920, 69, 78, 286, 143, 201, 652, 654, 651, 658, 659, 287, 80, 661, 81, 921, 400, 401, 402, 82, 83, 85, 87] (by decide +kernel) (by decide +kernel)
set_option maxRecDepth 20000 in
theorem zz_X7_wouldDone_4 : GoodIn wsL_law wsX7_wouldDone_r4 := goodIn_r _ [922, 76, 77, 79, 12, 13, 59, 49, 84, 7, 86, 647, 648, 649, 650, 202, 653, 655, 656, 657, 208, 660, 662, 663] (by decide +kernel) (by decide +kernel)
set_option maxRecDepth 20000 in
theorem zz_X7_wouldDone_5 : GoodIn wsL_law wsX7_wouldDone_r5 := goodIn_r _ [195, 196, 197, 198, 199, 200, 203, 204, 205, 206, 207, 209, 210, 211, 212, 213, 182, 179, 183, 214, 178, 180, 215, 140] (by decide +kernel) (by decide +kernel)
set_option maxRecDepth 20000 in
theorem zz_X7_wouldDone_6 : GoodIn wsL_law wsX7_wouldDone_r6 := goodIn_r _ [141, 142, 664, 665, 666, 667, 668, 669, 670, 497, 671, 672, 673, 674, 675, 676, 677, 678, 679, 520, 509, 510, 511, 680] (by decide +kernel) (by decide +kernel)
set_option maxRecDepth 20000 in
theorem zz_X7_wouldDone_7 : GoodIn wsL_law wsX7_wouldDone_r7 := goodIn_r _ [681, 682, 683, 684, 685, 686, 687, 688, 283, 284, 285, 689, 690, 691, 692, 693, 694, 695, 696, 697, 698, 699] (by decide +kernel) (by decide +kernel)
set_option maxRecDepth 20000 in
theorem zz_X7_wouldDone_8 : GoodIn wsL_law wsX70 := goodIn_r _ [1004, 1005, 1006, 1007, 1008, 1009, 1010] (by decide +kernel) (by decide +kernel)
set_option maxRecDepth 20000 in
theorem zz_X7_wouldDone_9 : GoodIn wsL_law wsJx4a65c0 := goodIn_r _ [1059, 1060, 1061] (by decide +kernel) (by decide +kernel)
set_option maxRecDepth 20000 in
theorem zz_X7_wouldDone_10 : GoodIn wsL_law wsX60 := goodIn_r _ [1039, 1040, 1041, 1042, 1043, 1044, 1045, 1046, 1047, 1048, 1049, 1050, 1051, 1052, 1053, 1054, 1055, 1056, 1057, 1058] (by decide +kernel) (by decide +kernel)
set_option maxRecDepth 20000 in
theorem ggL_law_X7_wouldDone : GoodIn wsL_law wsX7_wouldDone := (zc_1 zz_X7_wouldDone_0 (goodIn_app (goodIn_app (goodIn_app (goodIn_app zz_X7_wouldDone_1 (goodIn_app zz_X7_wouldDone_2 (goodIn_app zz_X7_wouldDone_3 (goodIn_app zz_X7_wouldDone_4 (goodIn_app zz_X7_wouldDone_5 (goodIn_app zz_X7_wouldDone_6 zz_X7_wouldDone_7)))))) zz_X7_wouldDone_8) zz_X7_wouldDone_9) zz_X7_wouldDone_10))
set_option maxRecDepth 20000 in
theorem gL_law_X7_wouldDone : GoodIn wsL_law (wsV RL 188 RX7 yX7_wouldDone wsX7_wouldDone) := goodIn_app (goodIn_of _ (by decide +kernel)) ggL_law_X7_wouldDone
set_option maxRecDepth 20000 in
theorem zz_L_best_0 : GoodIn wsL_law [.codeWith yL_best cL_best 4 (some .int) [(0, 9, 12, 13)]] := goodIn_r _ [945] (by decide +kernel) (by decide +kernel)
set_option maxRecDepth 20000 in
theorem zz_L_best_1 : GoodIn wsL_law wsL_best_r1 := goodIn_r _ [107, 946, 947, 948, 2, 949, 112, 113, 117, 118, 119, 950, 951, 952, 953, 954, 955, 956, 957, 18, 17, 227, 242, 333] (by decide +kernel) (by decide +kernel)
set_option maxRecDepth 20000 in
theorem zz_L_best_2 : GoodIn wsL_law wsL_best_r2 := goodIn_r _ [890, 891, 892, 16, 893, 25, 29, 33, 37, 38, 39, 565, 894, 895, 896, 24, 897, 275, 124, 164, 898, 899, 900, 28] (by decide +kernel) (by decide +kernel)
set_option maxRecDepth 20000 in
theorem zz_L_best_3 : GoodIn wsL_law wsL_best_r3 := goodIn_r _ [901, 577, 579, 576, 593, 599, 592, 902, 903, 904, 32, 905, 50, 906, 400, 401, 402, 51, 52, 53, 54, 55, 343, 907] (by decide +kernel) (by decide +kernel)
set_option maxRecDepth 20000 in
theorem zz_L_best_4 : GoodIn wsL_law wsL_best_r4 := goodIn_r _ [908, 909, 36, 910, 60, 911, 61, 62, 63, 319, 934, 560, 561, 562, 563, 564, 566, 567, 158, 159, 160, 161, 162, 163] (by decide +kernel) (by decide +kernel)
set_option maxRecDepth 20000 in
theorem zz_L_best_5 : GoodIn wsL_law wsL_best_r5 := goodIn_r _ [165, 166, 167, 168, 169, 170, 171, 172, 121, 122, 123, 173, 174, 175, 176, 177, 178, 179, 180, 181, 182, 183, 184, 185] (by decide +kernel) (by decide +kernel)
set_option maxRecDepth 20000 in
theorem zz_L_best_6 : GoodIn wsL_law wsL_best_r6 := goodIn_r _ [186, 187, 568, 569, 570, 571, 572, 573, 574, 575, 578, 580, 581, 582, 583, 584, 585, 586, 587, 588, 589, 590, 591, 594] (by decide +kernel) (by decide +kernel)
set_option maxRecDepth 20000 in
theorem zz_L_best_7 : GoodIn wsL_law wsL_best_r7 := goodIn_r _ [595, 596, 597, 598, 600, 601, 268, 269, 270, 271, 272, 273, 274, 602, 603, 604, 605, 606, 607, 608, 609, 610, 420, 421] (by decide +kernel) (by decide +kernel)
set_option maxRecDepth 20000 in
theorem zz_L_best_8 : GoodIn wsL_law wsL_best_r8 := goodIn_r _ [422, 611, 612, 613, 614, 615, 616, 617, 618, 619, 620, 621, 622, 623, 624, 625, 626, 627, 628, 629, 630, 631, 632, 633] (by decide +kernel) (by decide +kernel)
set_option maxRecDepth 20000 in
theorem zz_L_best_9 : GoodIn wsL_law wsL_best_r9 := goodIn_r _ [634, 635, 636, 637, 638, 639, 640, 641, 642, 958, 959, 960, 961] (by decide +kernel) (by decide +kernel)
set_option maxRecDepth 20000 in
theorem zz_L_best_10 : GoodIn wsL_law wsX50 := goodIn_r _ [998, 999, 1000, 1001, 1002, 1003] (by decide +kernel) (by decide +kernel)
set_option maxRecDepth 20000 in
theorem zz_L_best_11 : GoodIn wsL_law wsX10 := goodIn_r _ [1011, 1012, 1013, 1014, 1015, 1016, 1017] (by decide +kernel) (by decide +kernel)
set_option maxRecDepth 20000 in
theorem zz_L_best_12 : GoodIn wsL_law wsX30 := goodIn_r _ [1021, 1022, 1023, 1024, 1025, 1026] (by decide +kernel) (by decide +kernel)
set_option maxRecDepth 20000 in
theorem zz_L_best_13 : GoodIn wsL_law wsX40 := goodIn_r _ [1018, 1019, 1020] (by decide +kernel) (by decide +kernel)
set_option maxRecDepth 20000 in
theorem zz_L_best_14 : GoodIn wsL_law wsX00 := goodIn_r _ [1027, 1028, 1029, 1030, 1031, 1032, 1033] (by decide +kernel) (by decide +kernel)
set_option maxRecDepth 20000 in
theorem zz_L_best_15 : GoodIn wsL_law wsX20 := goodIn_r _ [1034, 1035, 1036, 1037, 1038] (by decide +kernel) (by decide +kernel)
set_option maxRecDepth 20000 in
theorem ggL_law_L_best : GoodIn wsL_law wsL_best := goodIn_ca ((zc_1 zz_L_best_0 (goodIn_app (goodIn_app (goodIn_app (goodIn_app (goodIn_app (goodIn_app (goodIn_app zz_L_best_1 (goodIn_app zz_L_best_2 (goodIn_app zz_L_best_3 (goodIn_app zz_L_best_4 (goodIn_app zz_L_best_5 (goodIn_app zz_L_best_6 (goodIn_app zz_L_best_7 (goodIn_app zz_L_best_8 zz_L_best_9)))))))) zz_L_best_10) zz_L_best_11) zz_L_best_12) zz_L_best_13) zz_L_best_14) zz_L_best_15))) (goodIn_sub (fun _ h => List.mem_append_left _ (List.mem_append_left _ (List.mem_append_right _ h))) (by decide +kernel))
set_option maxRecDepth 20000 in
theorem gL_law_L_best : GoodIn wsL_law (va_wsS RL 189 yL_best wsL_best) := goodIn_app (goodIn_of _ (by decide +kernel)) ggL_law_L_best
set_option maxRecDepth 20000 in
theorem zz_X7_best_0 : GoodIn wsL_law [.code yX7_best cX7_best 2 (some .int)] := goodIn_r _ [965] (by decide +kernel) (by decide +kernel)
set_option maxRecDepth 20000 in
theorem zz_X7_best_1 : GoodIn wsL_law wsX7_best_r1 := goodIn_r _ [129, 132, 133, 5, 134, 135, 136, 137, 138, 966, 967, 968, 969, 71, 247, 75, 348, 916, 917, 918, 70, 919, 920, 69] (by decide +kernel) (by decide +kernel)
set_option maxRecDepth 20000 in
theorem zz_X7_best_2 : GoodIn wsL_law wsX7_best_r2 := goodIn_r _ [78, 286, 143, 201, 652, 654, 651, 658, 659, 287, 80, 661, 81, 921, 400, 401, 402, 82, 83, 85, 87, 922, 76, 77] (by decide +kernel) (by decide +kernel)
set_option maxRecDepth 20000 in
theorem zz_X7_best_3 : GoodIn wsL_law wsX7_best_r3 := goodIn_r _ [79, 12, 13, 59, 49, 84, 7, 86, 647, 648, 649, 650, 202, 653, 655, 656, 657, 208, 660, 662, 663, 195, 196, 197] (by decide +kernel) (by decide +kernel)
set_option maxRecDepth 20000 in
theorem zz_X7_best_4 : GoodIn wsL_law wsX7_best_r4 := goodIn_r _ [198, 199, 200, 203, 204, 205, 206, 207, 209, 210, 211, 212, 213, 182, 179, 183, 214, 178, 180, 215, 140, 141, 142, 664] (by decide +kernel) (by decide +kernel)
set_option maxRecDepth 20000 in
theorem zz_X7_best_5 : GoodIn wsL_law wsX7_best_r5 := goodIn_r _ [665, 666, 667, 668, 669, 670, 497, 671, 672, 673, 674, 675, 676, 677, 678, 679, 520, 509, 510, 511, 680, 681, 682, 683] (by decide +kernel) (by decide +kernel)
set_option maxRecDepth 20000 in
theorem zz_X7_best_6 : GoodIn wsL_law wsX7_best_r6 := goodIn_r _ [684, 685, 686, 687, 688, 283, 284, 285, 689, 690, 691, 692, 693, 694, 695, 696, 446, 447, 74, 448, 353, 449, 450, 451] (by decide +kernel) (by decide +kernel)
set_option maxRecDepth 20000 in
theorem zz_X7_best_7 : GoodIn wsL_law wsX7_best_r7 := goodIn_r _ [452, 453, 454, 455, 456, 457, 458, 459, 460, 92, 697, 698, 699, 349, 350, 351, 352] (by decide +kernel) (by decide +kernel)
set_option maxRecDepth 20000 in
theorem zz_X7_best_8 : GoodIn wsL_law wsX70 := goodIn_r _ [1004, 1005, 1006, 1007, 1008, 1009, 1010] (by decide +kernel) (by decide +kernel)
set_option maxRecDepth 20000 in
theorem zz_X7_best_9 : GoodIn wsL_law wsX60 := goodIn_r _ [1039, 1040, 1041, 1042, 1043, 1044, 1045, 1046, 1047, 1048, 1049, 1050, 1051, 1052, 1053, 1054, 1055, 1056, 1057, 1058] (by decide +kernel) (by decide +kernel)
set_option maxRecDepth 20000 in
theorem zz_X7_best_10 : GoodIn wsL_law wsJx4a65c0 := goodIn_r _ [1059, 1060, 1061] (by decide +kernel) (by decide +kernel)
set_option maxRecDepth 20000 in
theorem ggL_law_X7_best : GoodIn wsL_law wsX7_best := (zc_1 zz_X7_best_0 (goodIn_app (goodIn_app (goodIn_app (goodIn_app zz_X7_best_1 (goodIn_app zz_X7_best_2 (goodIn_app zz_X7_best_3 (goodIn_app zz_X7_best_4 (goodIn_app zz_X7_best_5 (goodIn_app zz_X7_best_6 zz_X7_best_7)))))) zz_X7_best_8) zz_X7_best_9) zz_X7_best_10))
set_option maxRecDepth 20000 in
theorem gL_law_X7_best : GoodIn wsL_law (wsV RL 191 RX7 yX7_best wsX7_best) := goodIn_app (goodIn_of _ (by decide +kernel)) ggL_law_X7_best
