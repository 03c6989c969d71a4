set_option maxRecDepth 20000 in
theorem zz_X7_digest_0 : GoodIn wsL_law [.code yX7_digest cX7_digest 5 (some .long)] := goodIn_r _ [994] (by decide +kernel) (by decide +kernel)
set_option maxRecDepth 20000 in
theorem zz_X7_digest_1 : GoodIn wsL_law wsX7_digest_r1 := goodIn_r _ [129, 995, 996, 997, 71, 740, 741, 544, 324, 494, 75, 348, 838, 839, 840, 5, 841, 765, 49, 131, 234, 247, 842, 547] (by decide +kernel) (by decide +kernel)
set_option maxRecDepth 20000 in
theorem zz_X7_digest_2 : GoodIn wsL_law wsX7_digest_r2 := goodIn_r _ [305, 233, 139, 140, 141, 70, 142, 143, 843, 210, 211, 212, 213, 182, 179, 183, 214, 178, 180, 215, 349, 350, 351, 74] (by decide +kernel) (by decide +kernel)
set_option maxRecDepth 20000 in
theorem zz_X7_digest_3 : GoodIn wsL_law wsX7_digest_r3 := goodIn_r _ [352, 353, 461, 462, 463, 464, 435, 445, 446, 447, 448, 449, 450, 451, 452, 453, 454, 455, 456, 457, 458, 459, 460, 92] (by decide +kernel) (by decide +kernel)
set_option maxRecDepth 20000 in
theorem zz_X7_digest_4 : GoodIn wsL_law wsX7_digest_r4 := goodIn_r _ [282, 283, 284, 285, 286, 287, 80, 761, 762, 763, 764, 325, 436, 797, 798, 799, 800, 801, 802, 803, 804, 661, 82, 939] (by decide +kernel) (by decide +kernel)
set_option maxRecDepth 20000 in
theorem zz_X7_digest_5 : GoodIn wsL_law wsX7_digest_r5 := goodIn_r _ [940, 941, 942, 704, 916, 917, 918, 919, 920, 69, 78, 201, 652, 654, 651, 658, 659, 81, 921, 400, 401, 402, 83, 85] (by decide +kernel) (by decide +kernel)
set_option maxRecDepth 20000 in
theorem zz_X7_digest_6 : GoodIn wsL_law wsX7_digest_r6 := goodIn_r _ [87, 922, 76, 77, 79, 12, 13, 59, 84, 7, 86, 647, 648, 649, 650, 202, 653, 655, 656, 657, 208, 660, 662, 663] (by decide +kernel) (by decide +kernel)
set_option maxRecDepth 20000 in
theorem zz_X7_digest_7 : GoodIn wsL_law wsX7_digest_r7 := goodIn_r _ [195, 196, 197, 198, 199, 200, 203, 204, 205, 206, 207, 209, 664, 665, 666, 667, 668, 669, 670, 497, 671, 672, 673, 674] (by decide +kernel) (by decide +kernel)
set_option maxRecDepth 20000 in
theorem zz_X7_digest_8 : GoodIn wsL_law wsX7_digest_r8 := goodIn_r _ [675, 676, 677, 678, 679, 520, 509, 510, 511, 680, 681, 682, 683, 684, 685, 686, 687, 688, 689, 690, 691, 692, 693, 694] (by decide +kernel) (by decide +kernel)
set_option maxRecDepth 20000 in
theorem zz_X7_digest_9 : GoodIn wsL_law wsX7_digest_r9 := goodIn_r _ [695, 696, 697, 698, 699, 133, 134, 859, 860, 861, 862, 876, 877, 878, 879, 880, 881, 882, 966, 967, 968, 969] (by decide +kernel) (by decide +kernel)
set_option maxRecDepth 20000 in
theorem zz_X7_digest_10 : GoodIn wsL_law wsX70 := goodIn_r _ [1004, 1005, 1006, 1007, 1008, 1009, 1010] (by decide +kernel) (by decide +kernel)
set_option maxRecDepth 20000 in
theorem zz_X7_digest_11 : GoodIn wsL_law wsX60 := goodIn_r _ [1039, 1040, 1041, 1042, 1043, 1044, 1045, 1046, 1047, 1048, 1049, 1050, 1051, 1052, 1053, 1054, 1055, 1056, 1057, 1058] (by decide +kernel) (by decide +kernel)
set_option maxRecDepth 20000 in
theorem zz_X7_digest_12 : GoodIn wsL_law wsJx4a65c0 := goodIn_r _ [1059, 1060, 1061] (by decide +kernel) (by decide +kernel)
set_option maxRecDepth 20000 in
theorem ggL_law_X7_digest : GoodIn wsL_law wsX7_digest := (zc_1 zz_X7_digest_0 (goodIn_app (goodIn_app (goodIn_app (goodIn_app zz_X7_digest_1 (goodIn_app zz_X7_digest_2 (goodIn_app zz_X7_digest_3 (goodIn_app zz_X7_digest_4 (goodIn_app zz_X7_digest_5 (goodIn_app zz_X7_digest_6 (goodIn_app zz_X7_digest_7 (goodIn_app zz_X7_digest_8 zz_X7_digest_9)))))))) zz_X7_digest_10) zz_X7_digest_11) zz_X7_digest_12))
set_option maxRecDepth 20000 in
theorem gL_law_X7_digest : GoodIn wsL_law (wsV RL 196 RX7 yX7_digest wsX7_digest) := goodIn_app (goodIn_of _ (by decide +kernel)) ggL_law_X7_digest
