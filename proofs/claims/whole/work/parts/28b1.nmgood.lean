set_option maxRecDepth 20000 in
theorem ggL_law_X5_lock : GoodIn wsL_law wsX5_lock := goodIn_r _ [291, 226, 998, 999, 1000, 1001, 1002, 1003] (by decide +kernel) (by decide +kernel)
set_option maxRecDepth 20000 in
theorem gL_law_X5_lock : GoodIn wsL_law (wsV RL 123 RX5 yX5_lock wsX5_lock) := goodIn_app (goodIn_of _ (by decide +kernel)) ggL_law_X5_lock
set_option maxRecDepth 20000 in
theorem ggL_law_X7_lock : GoodIn wsL_law wsX7_lock := goodIn_r _ [295, 129, 233, 1004, 1005, 1006, 1007, 1008, 1009, 1010] (by decide +kernel) (by decide +kernel)
set_option maxRecDepth 20000 in
theorem gL_law_X7_lock : GoodIn wsL_law (wsV RL 126 RX7 yX7_lock wsX7_lock) := goodIn_app (goodIn_of _ (by decide +kernel)) ggL_law_X7_lock
set_option maxRecDepth 20000 in
theorem ggL_law_X5_bell : GoodIn wsL_law wsX5_bell := goodIn_r _ [299, 300, 998, 999, 1000, 1001, 1002, 1003] (by decide +kernel) (by decide +kernel)
set_option maxRecDepth 20000 in
theorem gL_law_X5_bell : GoodIn wsL_law (wsV RL 127 RX5 yX5_bell wsX5_bell) := goodIn_app (goodIn_of _ (by decide +kernel)) ggL_law_X5_bell
set_option maxRecDepth 20000 in
theorem ggL_law_X7_bell : GoodIn wsL_law wsX7_bell := goodIn_r _ [304, 129, 305, 1004, 1005, 1006, 1007, 1008, 1009, 1010] (by decide +kernel) (by decide +kernel)
set_option maxRecDepth 20000 in
theorem gL_law_X7_bell : GoodIn wsL_law (wsV RL 130 RX7 yX7_bell wsX7_bell) := goodIn_app (goodIn_of _ (by decide +kernel)) ggL_law_X7_bell
set_option maxRecDepth 20000 in
theorem ggL_law_L_pair : GoodIn wsL_law wsL_pair := goodIn_ca (goodIn_r _ [308, 219, 309, 310, 311, 2, 312, 224, 225, 17, 313, 314, 315, 316, 317, 36, 318, 319, 61, 998, 999, 1000, 1001, 1002, 1003, 1011, 1012, 1013, 1014, 1015, 1016, 1017, 1034, 1035, 1036, 1037, 1038] (by decide +kernel) (by decide +kernel)) (goodIn_sub (fun _ h => List.mem_append_left _ (List.mem_append_right _ h)) (by decide +kernel))
set_option maxRecDepth 20000 in
theorem gL_law_L_pair : GoodIn wsL_law (va_wsS RL 131 yL_pair wsL_pair) := goodIn_app (goodIn_of _ (by decide +kernel)) ggL_law_L_pair
set_option maxRecDepth 20000 in
theorem ggL_law_X7_pair : GoodIn wsL_law wsX7_pair := goodIn_r _ [323, 129, 71, 324, 325, 135, 136, 137, 5, 138, 1004, 1005, 1006, 1007, 1008, 1009, 1010, 1039, 1040, 1041, 1042, 1043, 1044, 1045, 1046, 1047, 1048, 1049, 1050, 1051, 1052, 1053, 1054, 1055, 1056, 1057, 1058] (by decide +kernel) (by decide +kernel)
set_option maxRecDepth 20000 in
theorem gL_law_X7_pair : GoodIn wsL_law (wsV RL 134 RX7 yX7_pair wsX7_pair) := goodIn_app (goodIn_of _ (by decide +kernel)) ggL_law_X7_pair
set_option maxRecDepth 20000 in
theorem ggL_law_L_lot : GoodIn wsL_law wsL_lot := goodIn_ca (goodIn_ca (goodIn_r _ [328, 107, 219, 329, 330, 331, 2, 332, 112, 113, 224, 225, 17, 333, 334, 114, 117, 118, 119, 335, 336, 337, 24, 338, 275, 339, 340, 341, 32, 342, 343, 50, 51, 52, 53, 54, 55, 998, 999, 1000, 1001, 1002, 1003, 1011, 1012, 1013, 1014, 1015, 1016, 1017, 1027, 1028, 1029, 1030, 1031, 1032, 1033, 1018, 1019, 1020] (by decide +kernel) (by decide +kernel)) (goodIn_sub (fun _ h => List.mem_append_left _ (List.mem_append_left _ (List.mem_append_right _ h))) (by decide +kernel))) (goodIn_sub (fun _ h => List.mem_append_left _ (List.mem_append_right _ h)) (by decide +kernel))
set_option maxRecDepth 20000 in
theorem gL_law_L_lot : GoodIn wsL_law (va_wsS RL 135 yL_lot wsL_lot) := goodIn_app (goodIn_of _ (by decide +kernel)) ggL_law_L_lot
set_option maxRecDepth 20000 in
theorem zz_X7_lot_0 : GoodIn wsL_law [.code yX7_lot cX7_lot 6 (some .int)] := goodIn_r _ [347] (by decide +kernel) (by decide +kernel)
set_option maxRecDepth 20000 in
theorem zz_X7_lot_1 : GoodIn wsL_law wsX7_lot_r1 := goodIn_r _ [129, 75, 49, 71, 131, 348, 132, 133, 5, 134, 135, 136, 137, 138, 349, 350, 351, 74, 352, 353, 354, 355, 356, 357] (by decide +kernel) (by decide +kernel)
set_option maxRecDepth 20000 in
theorem zz_X7_lot_2 : GoodIn wsL_law wsX7_lot_r2 := goodIn_r _ [358, 359, 92, 360, 361, 362, 363, 364, 365, 366, 367, 368, 369, 370, 371, 91, 372, 373, 179, 374, 375, 376, 377, 378] (by decide +kernel) (by decide +kernel)
set_option maxRecDepth 20000 in
theorem zz_X7_lot_3 : GoodIn wsL_law wsX7_lot_r3 := goodIn_r _ [379, 380, 381, 382, 383, 384, 385, 386, 387, 388, 389, 390, 391, 392, 393, 394, 395, 396, 397, 398, 182, 183, 399, 400] (by decide +kernel) (by decide +kernel)
set_option maxRecDepth 20000 in
theorem zz_X7_lot_4 : GoodIn wsL_law wsX7_lot_r4 := goodIn_r _ [401, 402] (by decide +kernel) (by decide +kernel)
set_option maxRecDepth 20000 in
theorem zz_X7_lot_5 : GoodIn wsL_law wsX70 := goodIn_r _ [1004, 1005, 1006, 1007, 1008, 1009, 1010] (by decide +kernel) (by decide +kernel)
set_option maxRecDepth 20000 in
theorem zz_X7_lot_6 : GoodIn wsL_law wsX60 := goodIn_r _ [1039, 1040, 1041, 1042, 1043, 1044, 1045, 1046, 1047, 1048, 1049, 1050, 1051, 1052, 1053, 1054, 1055, 1056, 1057, 1058] (by decide +kernel) (by decide +kernel)
set_option maxRecDepth 20000 in
theorem zz_X7_lot_7 : GoodIn wsL_law wsJx4a65c0 := goodIn_r _ [1059, 1060, 1061] (by decide +kernel) (by decide +kernel)
set_option maxRecDepth 20000 in
theorem ggL_law_X7_lot : GoodIn wsL_law wsX7_lot := (zc_1 zz_X7_lot_0 (goodIn_app (goodIn_app (goodIn_app (goodIn_app zz_X7_lot_1 (goodIn_app zz_X7_lot_2 (goodIn_app zz_X7_lot_3 zz_X7_lot_4))) zz_X7_lot_5) zz_X7_lot_6) zz_X7_lot_7))
set_option maxRecDepth 20000 in
theorem gL_law_X7_lot : GoodIn wsL_law (wsV RL 138 RX7 yX7_lot wsX7_lot) := goodIn_app (goodIn_of _ (by decide +kernel)) ggL_law_X7_lot
set_option maxRecDepth 20000 in
theorem zz_L_feed_0 : GoodIn wsL_law [.codeWith yL_feed cL_feed 5 (some .int) [(0, 10, 13, 43), (0, 10, 17, 22)]] := goodIn_r _ [405] (by decide +kernel) (by decide +kernel)
set_option maxRecDepth 20000 in
theorem zz_L_feed_1 : GoodIn wsL_law wsL_feed_r1 := goodIn_r _ [406, 219, 407, 408, 409, 2, 410, 411, 412, 224, 225, 17, 313, 333, 413, 414, 415, 416, 417, 36, 418, 319, 419, 420] (by decide +kernel) (by decide +kernel)
set_option maxRecDepth 20000 in
theorem zz_L_feed_2 : GoodIn wsL_law wsL_feed_r2 := goodIn_r _ [421, 32, 422, 343, 423, 424, 425, 426, 61, 62, 427, 428, 429, 430, 54] (by decide +kernel) (by decide +kernel)
set_option maxRecDepth 20000 in
theorem zz_L_feed_3 : GoodIn wsL_law wsX50 := goodIn_r _ [998, 999, 1000, 1001, 1002, 1003] (by decide +kernel) (by decide +kernel)
set_option maxRecDepth 20000 in
theorem zz_L_feed_4 : GoodIn wsL_law wsX10 := goodIn_r _ [1011, 1012, 1013, 1014, 1015, 1016, 1017] (by decide +kernel) (by decide +kernel)
set_option maxRecDepth 20000 in
theorem zz_L_feed_5 : GoodIn wsL_law wsX00 := goodIn_r _ [1027, 1028, 1029, 1030, 1031, 1032, 1033] (by decide +kernel) (by decide +kernel)
set_option maxRecDepth 20000 in
theorem zz_L_feed_6 : GoodIn wsL_law wsX20 := goodIn_r _ [1034, 1035, 1036, 1037, 1038] (by decide +kernel) (by decide +kernel)
set_option maxRecDepth 20000 in
theorem ggL_law_L_feed : GoodIn wsL_law wsL_feed := goodIn_ca (goodIn_ca ((zc_1 zz_L_feed_0 (goodIn_app (goodIn_app (goodIn_app (goodIn_app (goodIn_app zz_L_feed_1 zz_L_feed_2) zz_L_feed_3) zz_L_feed_4) zz_L_feed_5) zz_L_feed_6))) (goodIn_sub (fun _ h => List.mem_append_right _ h) (by decide +kernel))) (goodIn_sub (fun _ h => List.mem_append_left _ (List.mem_append_right _ h)) (by decide +kernel))
set_option maxRecDepth 20000 in
theorem gL_law_L_feed : GoodIn wsL_law (va_wsS RL 139 yL_feed wsL_feed) := goodIn_app (goodIn_of _ (by decide +kernel)) ggL_law_L_feed
set_option maxRecDepth 20000 in
theorem zz_X7_feed_0 : GoodIn wsL_law [.code yX7_feed cX7_feed 3 (some .int)] := goodIn_r _ [434] (by decide +kernel) (by decide +kernel)
set_option maxRecDepth 20000 in
theorem zz_X7_feed_1 : GoodIn wsL_law wsX7_feed_r1 := goodIn_r _ [129, 75, 435, 71, 325, 436, 437, 438, 439, 5, 440, 324, 132, 133, 134, 441, 442, 443, 444, 349, 350, 351, 74, 352] (by decide +kernel) (by decide +kernel)
set_option maxRecDepth 20000 in
theorem zz_X7_feed_2 : GoodIn wsL_law wsX7_feed_r2 := goodIn_r _ [353, 135, 136, 137, 138, 445, 446, 447, 448, 449, 450, 451, 452, 453, 454, 455, 456, 457, 458, 459, 460, 92, 461, 462] (by decide +kernel) (by decide +kernel)
set_option maxRecDepth 20000 in
theorem zz_X7_feed_3 : GoodIn wsL_law wsX7_feed_r3 := goodIn_r _ [463, 464] (by decide +kernel) (by decide +kernel)
set_option maxRecDepth 20000 in
theorem zz_X7_feed_4 : GoodIn wsL_law wsX70 := goodIn_r _ [1004, 1005, 1006, 1007, 1008, 1009, 1010] (by decide +kernel) (by decide +kernel)
set_option maxRecDepth 20000 in
theorem zz_X7_feed_5 : GoodIn wsL_law wsX60 := goodIn_r _ [1039, 1040, 1041, 1042, 1043, 1044, 1045, 1046, 1047, 1048, 1049, 1050, 1051, 1052, 1053, 1054, 1055, 1056, 1057, 1058] (by decide +kernel) (by decide +kernel)
set_option maxRecDepth 20000 in
theorem zz_X7_feed_6 : GoodIn wsL_law wsJx4a65c0 := goodIn_r _ [1059, 1060, 1061] (by decide +kernel) (by decide +kernel)
set_option maxRecDepth 20000 in
theorem ggL_law_X7_feed : GoodIn wsL_law wsX7_feed := (zc_1 zz_X7_feed_0 (goodIn_app (goodIn_app (goodIn_app (goodIn_app zz_X7_feed_1 (goodIn_app zz_X7_feed_2 zz_X7_feed_3)) zz_X7_feed_4) zz_X7_feed_5) zz_X7_feed_6))
set_option maxRecDepth 20000 in
theorem gL_law_X7_feed : GoodIn wsL_law (wsV RL 141 RX7 yX7_feed wsX7_feed) := goodIn_app (goodIn_of _ (by decide +kernel)) ggL_law_X7_feed
set_option maxRecDepth 20000 in
theorem ggL_law_L_take : GoodIn wsL_law wsL_take := goodIn_ca (goodIn_ca (goodIn_r _ [467, 406, 219, 468, 469, 470, 2, 471, 411, 412, 224, 225, 17, 313, 414, 333, 413, 415, 416, 417, 36, 418, 319, 419, 420, 421, 32, 422, 343, 998, 999, 1000, 1001, 1002, 1003, 1011, 1012, 1013, 1014, 1015, 1016, 1017, 1034, 1035, 1036, 1037, 1038, 1027, 1028, 1029, 1030, 1031, 1032, 1033] (by decide +kernel) (by decide +kernel)) (goodIn_sub (fun _ h => List.mem_append_right _ h) (by decide +kernel))) (goodIn_sub (fun _ h => List.mem_append_left _ (List.mem_append_right _ h)) (by decide +kernel))
set_option maxRecDepth 20000 in
theorem gL_law_L_take : GoodIn wsL_law (va_wsS RL 142 yL_take wsL_take) := goodIn_app (goodIn_of _ (by decide +kernel)) ggL_law_L_take
set_option maxRecDepth 20000 in
theorem zz_X7_take_0 : GoodIn wsL_law [.code yX7_take cX7_take 3 (some .int)] := goodIn_r _ [475] (by decide +kernel) (by decide +kernel)
set_option maxRecDepth 20000 in
theorem zz_X7_take_1 : GoodIn wsL_law wsX7_take_r1 := goodIn_r _ [129, 71, 325, 75, 435, 437, 438, 439, 5, 440, 324, 132, 133, 134, 135, 136, 137, 138, 445, 446, 447, 74, 448, 353] (by decide +kernel) (by decide +kernel)
set_option maxRecDepth 20000 in
theorem zz_X7_take_2 : GoodIn wsL_law wsX7_take_r2 := goodIn_r _ [449, 450, 451, 452, 453, 454, 455, 456, 457, 458, 459, 460, 92] (by decide +kernel) (by decide +kernel)
set_option maxRecDepth 20000 in
theorem zz_X7_take_3 : GoodIn wsL_law wsX70 := goodIn_r _ [1004, 1005, 1006, 1007, 1008, 1009, 1010] (by decide +kernel) (by decide +kernel)
set_option maxRecDepth 20000 in
theorem zz_X7_take_4 : GoodIn wsL_law wsX60 := goodIn_r _ [1039, 1040, 1041, 1042, 1043, 1044, 1045, 1046, 1047, 1048, 1049, 1050, 1051, 1052, 1053, 1054, 1055, 1056, 1057, 1058] (by decide +kernel) (by decide +kernel)
set_option maxRecDepth 20000 in
theorem zz_X7_take_5 : GoodIn wsL_law wsJx4a65c0 := goodIn_r _ [1059, 1060, 1061] (by decide +kernel) (by decide +kernel)
set_option maxRecDepth 20000 in
theorem ggL_law_X7_take : GoodIn wsL_law wsX7_take := (zc_1 zz_X7_take_0 (goodIn_app (goodIn_app (goodIn_app (goodIn_app zz_X7_take_1 zz_X7_take_2) zz_X7_take_3) zz_X7_take_4) zz_X7_take_5))
set_option maxRecDepth 20000 in
theorem gL_law_X7_take : GoodIn wsL_law (wsV RL 144 RX7 yX7_take wsX7_take) := goodIn_app (goodIn_of _ (by decide +kernel)) ggL_law_X7_take
set_option maxRecDepth 20000 in
theorem ggL_law_L_dress : GoodIn wsL_law wsL_dress := goodIn_ca (goodIn_ca (goodIn_r _ [478, 406, 219, 479, 480, 481, 2, 482, 411, 412, 224, 225, 17, 313, 483, 484, 485, 415, 416, 417, 36, 418, 319, 423, 424, 425, 426, 61, 62, 486, 487, 488, 998, 999, 1000, 1001, 1002, 1003, 1011, 1012, 1013, 1014, 1015, 1016, 1017, 1034, 1035, 1036, 1037, 1038] (by decide +kernel) (by decide +kernel)) (goodIn_sub (fun _ h => List.mem_append_right _ h) (by decide +kernel))) (goodIn_sub (fun _ h => List.mem_append_left _ (List.mem_append_right _ h)) (by decide +kernel))
set_option maxRecDepth 20000 in
theorem gL_law_L_dress : GoodIn wsL_law (va_wsS RL 145 yL_dress wsL_dress) := goodIn_app (goodIn_of _ (by decide +kernel)) ggL_law_L_dress
set_option maxRecDepth 20000 in
theorem zz_X7_dress_0 : GoodIn wsL_law [.code yX7_dress cX7_dress 2 (some .int)] := goodIn_r _ [492] (by decide +kernel) (by decide +kernel)
set_option maxRecDepth 20000 in
theorem zz_X7_dress_1 : GoodIn wsL_law wsX7_dress_r1 := goodIn_r _ [129, 71, 325, 436, 493, 494, 437, 438, 439, 5, 440, 324, 132, 133, 134, 135, 136, 137, 138, 495, 496, 497, 498, 499] (by decide +kernel) (by decide +kernel)
set_option maxRecDepth 20000 in
theorem zz_X7_dress_2 : GoodIn wsL_law wsX7_dress_r2 := goodIn_r _ [500, 501, 502, 503, 504, 505, 506, 507, 508, 509, 510, 511, 512, 513, 514, 515, 516, 517, 518, 519, 520, 521, 522] (by decide +kernel) (by decide +kernel)
set_option maxRecDepth 20000 in
theorem zz_X7_dress_3 : GoodIn wsL_law wsX70 := goodIn_r _ [1004, 1005, 1006, 1007, 1008, 1009, 1010] (by decide +kernel) (by decide +kernel)
set_option maxRecDepth 20000 in
theorem zz_X7_dress_4 : GoodIn wsL_law wsX60 := goodIn_r _ [1039, 1040, 1041, 1042, 1043, 1044, 1045, 1046, 1047, 1048, 1049, 1050, 1051, 1052, 1053, 1054, 1055, 1056, 1057, 1058] (by decide +kernel) (by decide +kernel)
set_option maxRecDepth 20000 in
theorem ggL_law_X7_dress : GoodIn wsL_law wsX7_dress := (zc_1 zz_X7_dress_0 (goodIn_app (goodIn_app (goodIn_app zz_X7_dress_1 zz_X7_dress_2) zz_X7_dress_3) zz_X7_dress_4))
set_option maxRecDepth 20000 in
theorem gL_law_X7_dress : GoodIn wsL_law (wsV RL 147 RX7 yX7_dress wsX7_dress) := goodIn_app (goodIn_of _ (by decide +kernel)) ggL_law_X7_dress
set_option maxRecDepth 20000 in
theorem zz_L_give_0 : GoodIn wsL_law [.codeWith yL_give cL_give 4 (some .int) [(0, 9, 12, 43), (0, 9, 15, 22)]] := goodIn_r _ [525] (by decide +kernel) (by decide +kernel)
set_option maxRecDepth 20000 in
theorem zz_L_give_1 : GoodIn wsL_law wsL_give_r1 := goodIn_r _ [406, 219, 526, 527, 528, 2, 529, 411, 412, 224, 225, 17, 333, 413, 530, 114, 531, 532, 373, 179, 374, 533, 534, 535] (by decide +kernel) (by decide +kernel)
set_option maxRecDepth 20000 in
theorem zz_L_give_2 : GoodIn wsL_law wsL_give_r2 := goodIn_r _ [536, 419, 420, 421, 32, 422, 343, 335, 336, 337, 24, 338, 275, 537, 538, 539] (by decide +kernel) (by decide +kernel)
set_option maxRecDepth 20000 in
theorem zz_L_give_3 : GoodIn wsL_law wsX50 := goodIn_r _ [998, 999, 1000, 1001, 1002, 1003] (by decide +kernel) (by decide +kernel)
set_option maxRecDepth 20000 in
theorem zz_L_give_4 : GoodIn wsL_law wsX10 := goodIn_r _ [1011, 1012, 1013, 1014, 1015, 1016, 1017] (by decide +kernel) (by decide +kernel)
set_option maxRecDepth 20000 in
theorem zz_L_give_5 : GoodIn wsL_law wsX00 := goodIn_r _ [1027, 1028, 1029, 1030, 1031, 1032, 1033] (by decide +kernel) (by decide +kernel)
set_option maxRecDepth 20000 in
theorem zz_L_give_6 : GoodIn wsL_law wsX40 := goodIn_r _ [1018, 1019, 1020] (by decide +kernel) (by decide +kernel)
set_option maxRecDepth 20000 in
theorem ggL_law_L_give : GoodIn wsL_law wsL_give := goodIn_ca (goodIn_ca ((zc_1 zz_L_give_0 (goodIn_app (goodIn_app (goodIn_app (goodIn_app (goodIn_app zz_L_give_1 zz_L_give_2) zz_L_give_3) zz_L_give_4) zz_L_give_5) zz_L_give_6))) (goodIn_sub (fun _ h => List.mem_append_right _ h) (by decide +kernel))) (goodIn_sub (fun _ h => List.mem_append_left _ (List.mem_append_right _ h)) (by decide +kernel))
set_option maxRecDepth 20000 in
theorem gL_law_L_give : GoodIn wsL_law (va_wsS RL 148 yL_give wsL_give) := goodIn_app (goodIn_of _ (by decide +kernel)) ggL_law_L_give
