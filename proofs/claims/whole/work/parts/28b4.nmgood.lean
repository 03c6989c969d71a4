theorem ze_c1 {big b : List Cond} {c : Cond} (ha : GoodIn big [c]) (hb : GoodIn big b) : GoodIn big (c :: b) := fun w h => (List.mem_cons.mp h).elim (fun e => ha w (List.mem_cons.mpr (Or.inl e))) (hb w)
set_option maxRecDepth 20000 in
theorem ze_0 : GoodIn wsL_law [.code yX5_digest cX5_digest 4 (some .long)] := goodIn_r _ [973] (by decide +kernel) (by decide +kernel)
set_option maxRecDepth 20000 in
theorem ze_1 : GoodIn wsL_law wsX5_digest_r1 := goodIn_r _ [974, 17, 313, 314, 333, 334, 114, 824, 825, 826, 2, 827, 116, 227, 228, 242, 828, 536, 300, 226, 335, 336, 337, 24] (by decide +kernel) (by decide +kernel)
set_option maxRecDepth 20000 in
theorem ze_2 : GoodIn wsL_law wsX5_digest_r2 := goodIn_r _ [338, 275, 120, 121, 122, 123, 124, 829, 173, 174, 175, 176, 177, 178, 179, 180, 181, 182, 183, 427, 428, 429, 32, 430] (by decide +kernel) (by decide +kernel)
set_option maxRecDepth 20000 in
theorem ze_3 : GoodIn wsL_law wsX5_digest_r3 := goodIn_r _ [343, 54, 830, 831, 832, 36, 833, 319, 63, 267, 268, 269, 16, 270, 25, 38, 39, 271, 272, 273, 274, 975, 976, 977] (by decide +kernel) (by decide +kernel)
set_option maxRecDepth 20000 in
theorem ze_4 : GoodIn wsL_law wsX5_digest_r4 := goodIn_r _ [978, 723, 724, 725, 726, 727, 728, 729, 534, 730, 583, 584, 28, 585, 586, 579, 731, 167, 168, 169, 170, 171, 172, 979] (by decide +kernel) (by decide +kernel)
set_option maxRecDepth 20000 in
theorem ze_5 : GoodIn wsL_law wsX5_digest_r5 := goodIn_r _ [980, 981, 982, 983, 984, 985, 986, 485, 752, 753, 754, 755, 414, 483, 756, 987, 988, 989, 990, 812, 784, 785, 786, 787] (by decide +kernel) (by decide +kernel)
set_option maxRecDepth 20000 in
theorem ze_6 : GoodIn wsL_law wsX5_digest_r6 := goodIn_r _ [788, 533, 530, 531, 413, 789, 790, 791, 792, 61, 930, 931, 932, 933, 18, 890, 891, 892, 893, 29, 33, 37, 565, 894] (by decide +kernel) (by decide +kernel)
set_option maxRecDepth 20000 in
theorem ze_7 : GoodIn wsL_law wsX5_digest_r7 := goodIn_r _ [895, 896, 897, 164, 898, 899, 900, 901, 577, 576, 593, 599, 592, 902, 903, 904, 905, 50, 906, 400, 401, 402, 51, 52] (by decide +kernel) (by decide +kernel)
set_option maxRecDepth 20000 in
theorem ze_8 : GoodIn wsL_law wsX5_digest_r8 := goodIn_r _ [53, 55, 907, 908, 909, 910, 60, 911, 62, 934, 560, 561, 562, 563, 564, 566, 567, 158, 159, 160, 161, 162, 163, 165] (by decide +kernel) (by decide +kernel)
set_option maxRecDepth 20000 in
theorem ze_9 : GoodIn wsL_law wsX5_digest_r9 := goodIn_r _ [166, 184, 185, 186, 187, 568, 569, 570, 571, 572, 573, 574, 575, 578, 580, 581, 582, 587, 588, 589, 590, 591, 594, 595] (by decide +kernel) (by decide +kernel)
set_option maxRecDepth 20000 in
theorem ze_10 : GoodIn wsL_law wsX5_digest_r10 := goodIn_r _ [596, 597, 598, 600, 601, 602, 603, 604, 605, 606, 607, 608, 609, 610, 611, 612, 613, 614, 615, 420, 421, 422, 616, 617] (by decide +kernel) (by decide +kernel)
set_option maxRecDepth 20000 in
theorem ze_11 : GoodIn wsL_law wsX5_digest_r11 := goodIn_r _ [618, 619, 620, 621, 622, 623, 624, 625, 626, 627, 628, 629, 630, 631, 632, 633, 634, 635, 636, 637, 638, 639, 640, 641] (by decide +kernel) (by decide +kernel)
set_option maxRecDepth 20000 in
theorem ze_12 : GoodIn wsL_law wsX5_digest_r12 := goodIn_r _ [642, 851, 852, 853, 854, 867, 868, 869, 870, 871, 950, 951, 952, 953, 954, 955, 956, 957, 555, 556, 557, 558, 559, 958] (by decide +kernel) (by decide +kernel)
set_option maxRecDepth 20000 in
theorem ze_13 : GoodIn wsL_law wsX5_digest_r13 := goodIn_r _ [959, 960, 961] (by decide +kernel) (by decide +kernel)
set_option maxRecDepth 20000 in
theorem ze_14 : GoodIn wsL_law wsX50 := goodIn_r _ [998, 999, 1000, 1001, 1002, 1003] (by decide +kernel) (by decide +kernel)
set_option maxRecDepth 20000 in
theorem ze_15 : GoodIn wsL_law wsX10 := goodIn_r _ [1011, 1012, 1013, 1014, 1015, 1016, 1017] (by decide +kernel) (by decide +kernel)
set_option maxRecDepth 20000 in
theorem ze_16 : GoodIn wsL_law wsX20 := goodIn_r _ [1034, 1035, 1036, 1037, 1038] (by decide +kernel) (by decide +kernel)
set_option maxRecDepth 20000 in
theorem ze_17 : GoodIn wsL_law wsX00 := goodIn_r _ [1027, 1028, 1029, 1030, 1031, 1032, 1033] (by decide +kernel) (by decide +kernel)
set_option maxRecDepth 20000 in
theorem ze_18 : GoodIn wsL_law wsX40 := goodIn_r _ [1018, 1019, 1020] (by decide +kernel) (by decide +kernel)
set_option maxRecDepth 20000 in
theorem ze_19 : GoodIn wsL_law wsX30 := goodIn_r _ [1021, 1022, 1023, 1024, 1025, 1026] (by decide +kernel) (by decide +kernel)
set_option maxRecDepth 20000 in
theorem ggL_law_X5_digest : GoodIn wsL_law wsX5_digest := ze_c1 ze_0 (goodIn_app (goodIn_app (goodIn_app (goodIn_app (goodIn_app (goodIn_app (goodIn_app ze_1 (goodIn_app ze_2 (goodIn_app ze_3 (goodIn_app ze_4 (goodIn_app ze_5 (goodIn_app ze_6 (goodIn_app ze_7 (goodIn_app ze_8 (goodIn_app ze_9 (goodIn_app ze_10 (goodIn_app ze_11 (goodIn_app ze_12 ze_13)))))))))))) ze_14) ze_15) ze_16) ze_17) ze_18) ze_19)
set_option maxRecDepth 20000 in
theorem gL_law_X5_digest : GoodIn wsL_law (wsV RL 192 RX5 yX5_digest wsX5_digest) := goodIn_app (goodIn_of _ (by decide +kernel)) ggL_law_X5_digest
