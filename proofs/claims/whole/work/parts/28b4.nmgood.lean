set_option maxRecDepth 20000 in
theorem zz_X5_digest_0 : GoodIn wsL_law [.code yX5_digest cX5_digest 4 (some .long)] := goodIn_r _ [973] (by decide +kernel) (by decide +kernel)
set_option maxRecDepth 20000 in
theorem zz_X5_digest_1 : GoodIn wsL_law wsX5_digest_r1 := goodIn_r _ [974, 17, 313, 314, 333, 334, 114, 824, 825, 826, 2, 827, 116, 227, 228, 242, 828, 536, 300, 226, 335, 336, 337, 24] (by decide +kernel) (by decide +kernel)
set_option maxRecDepth 20000 in
theorem zz_X5_digest_2 : GoodIn wsL_law wsX5_digest_r2 := goodIn_r _ [338, 275, 120, 121, 122, 123, 124, 829, 174, 175, 176, 177, 178, 179, 180, 181, 182, 183, 427, 428, 429, 32, 430, 343] (by decide +kernel) (by decide +kernel)
set_option maxRecDepth 20000 in
theorem zz_X5_digest_3 : GoodIn wsL_law wsX5_digest_r3 := goodIn_r _ [54, 830, 831, 832, 36, 833, 319, 63, 267, 268, 269, 16, 270, 25, 38, 39, 271, 272, 273, 274, 975, 976, 977, 978] (by decide +kernel) (by decide +kernel)
set_option maxRecDepth 20000 in
theorem zz_X5_digest_4 : GoodIn wsL_law wsX5_digest_r4 := goodIn_r _ [723, 724, 725, 726, 727, 728, 729, 534, 730, 583, 584, 28, 585, 586, 579, 731, 167, 168, 169, 170, 171, 172, 173, 979] (by decide +kernel) (by decide +kernel)
set_option maxRecDepth 20000 in
theorem zz_X5_digest_5 : GoodIn wsL_law wsX5_digest_r5 := goodIn_r _ [980, 981, 982, 983, 984, 985, 986, 485, 752, 753, 754, 755, 414, 483, 756, 987, 988, 989, 990, 812, 784, 785, 786, 787] (by decide +kernel) (by decide +kernel)
set_option maxRecDepth 20000 in
theorem zz_X5_digest_6 : GoodIn wsL_law wsX5_digest_r6 := goodIn_r _ [788, 533, 530, 531, 413, 789, 790, 791, 792, 61, 930, 931, 932, 933, 18, 890, 891, 892, 893, 29, 33, 37, 565, 894] (by decide +kernel) (by decide +kernel)
set_option maxRecDepth 20000 in
theorem zz_X5_digest_7 : GoodIn wsL_law wsX5_digest_r7 := goodIn_r _ [895, 896, 897, 164, 898, 899, 900, 901, 577, 576, 593, 599, 592, 902, 903, 904, 905, 50, 906, 400, 401, 402, 51, 52] (by decide +kernel) (by decide +kernel)
set_option maxRecDepth 20000 in
theorem zz_X5_digest_8 : GoodIn wsL_law wsX5_digest_r8 := goodIn_r _ [53, 55, 907, 908, 909, 910, 60, 911, 62, 934, 560, 561, 562, 563, 564, 566, 567, 158, 159, 160, 161, 162, 163, 165] (by decide +kernel) (by decide +kernel)
set_option maxRecDepth 20000 in
theorem zz_X5_digest_9 : GoodIn wsL_law wsX5_digest_r9 := goodIn_r _ [166, 184, 185, 186, 187, 568, 569, 570, 571, 572, 573, 574, 575, 578, 580, 581, 582, 587, 588, 589, 590, 591, 594, 595] (by decide +kernel) (by decide +kernel)
set_option maxRecDepth 20000 in
theorem zz_X5_digest_10 : GoodIn wsL_law wsX5_digest_r10 := goodIn_r _ [596, 597, 598, 600, 601, 602, 603, 604, 605, 606, 607, 608, 609, 610, 420, 421, 422, 611, 612, 613, 614, 615, 616, 617] (by decide +kernel) (by decide +kernel)
set_option maxRecDepth 20000 in
theorem zz_X5_digest_11 : GoodIn wsL_law wsX5_digest_r11 := goodIn_r _ [618, 619, 620, 621, 622, 623, 624, 625, 626, 627, 628, 629, 630, 631, 632, 633, 634, 635, 636, 637, 638, 639, 640, 641] (by decide +kernel) (by decide +kernel)
set_option maxRecDepth 20000 in
theorem zz_X5_digest_12 : GoodIn wsL_law wsX5_digest_r12 := goodIn_r _ [642, 851, 852, 853, 854, 867, 868, 869, 870, 871, 950, 951, 952, 953, 954, 955, 956, 957, 958, 959, 960, 961] (by decide +kernel) (by decide +kernel)
set_option maxRecDepth 20000 in
theorem zz_X5_digest_13 : GoodIn wsL_law wsX50 := goodIn_r _ [998, 999, 1000, 1001, 1002, 1003] (by decide +kernel) (by decide +kernel)
set_option maxRecDepth 20000 in
theorem zz_X5_digest_14 : GoodIn wsL_law wsX10 := goodIn_r _ [1011, 1012, 1013, 1014, 1015, 1016, 1017] (by decide +kernel) (by decide +kernel)
set_option maxRecDepth 20000 in
theorem zz_X5_digest_15 : GoodIn wsL_law wsX20 := goodIn_r _ [1034, 1035, 1036, 1037, 1038] (by decide +kernel) (by decide +kernel)
set_option maxRecDepth 20000 in
theorem zz_X5_digest_16 : GoodIn wsL_law wsX00 := goodIn_r _ [1027, 1028, 1029, 1030, 1031, 1032, 1033] (by decide +kernel) (by decide +kernel)
set_option maxRecDepth 20000 in
theorem zz_X5_digest_17 : GoodIn wsL_law wsX40 := goodIn_r _ [1018, 1019, 1020] (by decide +kernel) (by decide +kernel)
set_option maxRecDepth 20000 in
theorem zz_X5_digest_18 : GoodIn wsL_law wsX30 := goodIn_r _ [1021, 1022, 1023, 1024, 1025, 1026] (by decide +kernel) (by decide +kernel)
set_option maxRecDepth 20000 in
theorem ggL_law_X5_digest : GoodIn wsL_law wsX5_digest := (zc_1 zz_X5_digest_0 (goodIn_app (goodIn_app (goodIn_app (goodIn_app (goodIn_app (goodIn_app (goodIn_app zz_X5_digest_1 (goodIn_app zz_X5_digest_2 (goodIn_app zz_X5_digest_3 (goodIn_app zz_X5_digest_4 (goodIn_app zz_X5_digest_5 (goodIn_app zz_X5_digest_6 (goodIn_app zz_X5_digest_7 (goodIn_app zz_X5_digest_8 (goodIn_app zz_X5_digest_9 (goodIn_app zz_X5_digest_10 (goodIn_app zz_X5_digest_11 zz_X5_digest_12))))))))))) zz_X5_digest_13) zz_X5_digest_14) zz_X5_digest_15) zz_X5_digest_16) zz_X5_digest_17) zz_X5_digest_18))
set_option maxRecDepth 20000 in
theorem gL_law_X5_digest : GoodIn wsL_law (wsV RL 192 RX5 yX5_digest wsX5_digest) := goodIn_app (goodIn_of _ (by decide +kernel)) ggL_law_X5_digest
