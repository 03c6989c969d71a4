set_option maxRecDepth 20000 in
theorem ggL_law_X5_init : GoodIn wsL_law wsX5_init := goodIn_r _ [10, 11, 12, 13, 14, 15, 16, 17, 18, 19, 20, 21, 22, 23, 24, 25, 26, 27, 28, 29, 30, 31, 32, 33, 34, 35, 36, 37, 38, 39, 40, 41, 42, 43, 44, 45, 46, 47, 48, 49, 50, 51, 52, 53, 54, 7, 55, 56, 57, 58, 59, 60, 61, 62, 63, 1011, 1012, 1013, 1014, 1015, 1016, 1017, 998, 999, 1000, 1001, 1002, 1003, 1018, 1019, 1020, 1021, 1022, 1023, 1024, 1025, 1026, 1027, 1028, 1029, 1030, 1031, 1032, 1033, 1034, 1035, 1036, 1037, 1038] (by decide +kernel) (by decide +kernel)
set_option maxRecDepth 20000 in
theorem gL_law_X5_init : GoodIn wsL_law (wsX5_init) := ggL_law_X5_init
set_option maxRecDepth 20000 in
theorem ggL_law_X7_init : GoodIn wsL_law wsX7_init := goodIn_r _ [66, 67, 12, 13, 68, 69, 70, 71, 72, 73, 74, 75, 76, 77, 78, 79, 80, 59, 81, 49, 82, 83, 84, 7, 85, 86, 87, 88, 89, 90, 91, 92, 93, 94, 95, 96, 97, 98, 99, 100, 101, 102, 1039, 1040, 1041, 1042, 1043, 1044, 1045, 1046, 1047, 1048, 1049, 1050, 1051, 1052, 1053, 1054, 1055, 1056, 1057, 1058, 1004, 1005, 1006, 1007, 1008, 1009, 1010, 1059, 1060, 1061] (by decide +kernel) (by decide +kernel)
set_option maxRecDepth 20000 in
theorem gL_law_X7_init : GoodIn wsL_law (wsX7_init) := ggL_law_X7_init
set_option maxRecDepth 20000 in
theorem ggL_law_L_moon : GoodIn wsL_law wsL_moon := goodIn_ca (goodIn_r _ [106, 107, 108, 109, 110, 2, 111, 112, 113, 17, 114, 115, 116, 117, 118, 119, 120, 121, 122, 24, 123, 124, 998, 999, 1000, 1001, 1002, 1003, 1011, 1012, 1013, 1014, 1015, 1016, 1017, 1018, 1019, 1020] (by decide +kernel) (by decide +kernel)) (goodIn_sub (fun _ h => List.mem_append_left _ (List.mem_append_left _ (List.mem_append_right _ h))) (by decide +kernel))
set_option maxRecDepth 20000 in
theorem gL_law_L_moon : GoodIn wsL_law (va_wsS RL 95 yL_moon wsL_moon) := goodIn_app (goodIn_of _ (by decide +kernel)) ggL_law_L_moon
set_option maxRecDepth 20000 in
theorem ggL_law_X7_moon : GoodIn wsL_law wsX7_moon := goodIn_r _ [128, 129, 71, 130, 131, 132, 133, 5, 134, 135, 136, 137, 138, 139, 140, 141, 70, 142, 143, 1004, 1005, 1006, 1007, 1008, 1009, 1010, 1039, 1040, 1041, 1042, 1043, 1044, 1045, 1046, 1047, 1048, 1049, 1050, 1051, 1052, 1053, 1054, 1055, 1056, 1057, 1058] (by decide +kernel) (by decide +kernel)
set_option maxRecDepth 20000 in
theorem gL_law_X7_moon : GoodIn wsL_law (wsV RL 100 RX7 yX7_moon wsX7_moon) := goodIn_app (goodIn_of _ (by decide +kernel)) ggL_law_X7_moon
set_option maxRecDepth 20000 in
theorem ggL_law_X7_thrown : GoodIn wsL_law wsX7_thrown := goodIn_r _ [147, 129, 1004, 1005, 1006, 1007, 1008, 1009, 1010] (by decide +kernel) (by decide +kernel)
set_option maxRecDepth 20000 in
theorem gL_law_X7_thrown : GoodIn wsL_law (wsV RL 101 RX7 yX7_thrown wsX7_thrown) := goodIn_app (goodIn_of _ (by decide +kernel)) ggL_law_X7_thrown
set_option maxRecDepth 20000 in
theorem ggL_law_L_surge : GoodIn wsL_law wsL_surge := goodIn_ca (goodIn_r _ [150, 107, 151, 152, 153, 2, 154, 112, 113, 17, 114, 155, 156, 116, 117, 118, 119, 157, 158, 159, 24, 160, 161, 162, 163, 164, 165, 166, 167, 168, 169, 170, 171, 172, 173, 174, 175, 176, 177, 178, 179, 180, 181, 182, 183, 121, 122, 123, 124, 184, 185, 186, 187, 998, 999, 1000, 1001, 1002, 1003, 1011, 1012, 1013, 1014, 1015, 1016, 1017, 1018, 1019, 1020] (by decide +kernel) (by decide +kernel)) (goodIn_sub (fun _ h => List.mem_append_left _ (List.mem_append_left _ (List.mem_append_right _ h))) (by decide +kernel))
set_option maxRecDepth 20000 in
theorem gL_law_L_surge : GoodIn wsL_law (va_wsS RL 104 yL_surge wsL_surge) := goodIn_app (goodIn_of _ (by decide +kernel)) ggL_law_L_surge
set_option maxRecDepth 20000 in
theorem ggL_law_X7_surge : GoodIn wsL_law wsX7_surge := goodIn_r _ [191, 129, 71, 192, 193, 131, 132, 133, 5, 134, 135, 136, 137, 138, 194, 195, 196, 70, 197, 198, 199, 200, 201, 202, 203, 204, 205, 206, 207, 208, 209, 210, 211, 212, 213, 181, 178, 182, 214, 177, 179, 215, 140, 141, 142, 143, 1004, 1005, 1006, 1007, 1008, 1009, 1010, 1039, 1040, 1041, 1042, 1043, 1044, 1045, 1046, 1047, 1048, 1049, 1050, 1051, 1052, 1053, 1054, 1055, 1056, 1057, 1058] (by decide +kernel) (by decide +kernel)
set_option maxRecDepth 20000 in
theorem gL_law_X7_surge : GoodIn wsL_law (wsV RL 107 RX7 yX7_surge wsX7_surge) := goodIn_app (goodIn_of _ (by decide +kernel)) ggL_law_X7_surge
set_option maxRecDepth 20000 in
theorem ggL_law_L_gates : GoodIn wsL_law wsL_gates := goodIn_ca (goodIn_ca (goodIn_r _ [218, 107, 219, 220, 221, 222, 2, 223, 112, 113, 224, 225, 226, 17, 227, 228, 117, 118, 119, 998, 999, 1000, 1001, 1002, 1003, 1011, 1012, 1013, 1014, 1015, 1016, 1017, 1021, 1022, 1023, 1024, 1025, 1026] (by decide +kernel) (by decide +kernel)) (goodIn_sub (fun _ h => List.mem_append_left _ (List.mem_append_left _ (List.mem_append_right _ h))) (by decide +kernel))) (goodIn_sub (fun _ h => List.mem_append_left _ (List.mem_append_right _ h)) (by decide +kernel))
set_option maxRecDepth 20000 in
theorem gL_law_L_gates : GoodIn wsL_law (va_wsS RL 108 yL_gates wsL_gates) := goodIn_app (goodIn_of _ (by decide +kernel)) ggL_law_L_gates
set_option maxRecDepth 20000 in
theorem ggL_law_X7_gates : GoodIn wsL_law wsX7_gates := goodIn_r _ [232, 129, 233, 71, 234, 132, 133, 5, 134, 135, 136, 137, 138, 1004, 1005, 1006, 1007, 1008, 1009, 1010, 1039, 1040, 1041, 1042, 1043, 1044, 1045, 1046, 1047, 1048, 1049, 1050, 1051, 1052, 1053, 1054, 1055, 1056, 1057, 1058] (by decide +kernel) (by decide +kernel)
set_option maxRecDepth 20000 in
theorem gL_law_X7_gates : GoodIn wsL_law (wsV RL 110 RX7 yX7_gates wsX7_gates) := goodIn_app (goodIn_of _ (by decide +kernel)) ggL_law_X7_gates
set_option maxRecDepth 20000 in
theorem ggL_law_L_sluice : GoodIn wsL_law wsL_sluice := goodIn_ca (goodIn_r _ [237, 107, 238, 239, 240, 2, 241, 112, 113, 17, 227, 242, 117, 118, 119, 998, 999, 1000, 1001, 1002, 1003, 1011, 1012, 1013, 1014, 1015, 1016, 1017, 1021, 1022, 1023, 1024, 1025, 1026] (by decide +kernel) (by decide +kernel)) (goodIn_sub (fun _ h => List.mem_append_left _ (List.mem_append_left _ (List.mem_append_right _ h))) (by decide +kernel))
set_option maxRecDepth 20000 in
theorem gL_law_L_sluice : GoodIn wsL_law (va_wsS RL 111 yL_sluice wsL_sluice) := goodIn_app (goodIn_of _ (by decide +kernel)) ggL_law_L_sluice
set_option maxRecDepth 20000 in
theorem ggL_law_X7_sluice : GoodIn wsL_law wsX7_sluice := goodIn_r _ [246, 129, 71, 247, 132, 133, 5, 134, 135, 136, 137, 138, 1004, 1005, 1006, 1007, 1008, 1009, 1010, 1039, 1040, 1041, 1042, 1043, 1044, 1045, 1046, 1047, 1048, 1049, 1050, 1051, 1052, 1053, 1054, 1055, 1056, 1057, 1058] (by decide +kernel) (by decide +kernel)
set_option maxRecDepth 20000 in
theorem gL_law_X7_sluice : GoodIn wsL_law (wsV RL 113 RX7 yX7_sluice wsX7_sluice) := goodIn_app (goodIn_of _ (by decide +kernel)) ggL_law_X7_sluice
set_option maxRecDepth 20000 in
theorem ggL_law_X5_scour : GoodIn wsL_law wsX5_scour := goodIn_r _ [251, 17, 227, 252, 998, 999, 1000, 1001, 1002, 1003, 1011, 1012, 1013, 1014, 1015, 1016, 1017, 1021, 1022, 1023, 1024, 1025, 1026] (by decide +kernel) (by decide +kernel)
set_option maxRecDepth 20000 in
theorem gL_law_X5_scour : GoodIn wsL_law (wsV RL 114 RX5 yX5_scour wsX5_scour) := goodIn_app (goodIn_of _ (by decide +kernel)) ggL_law_X5_scour
set_option maxRecDepth 20000 in
theorem ggL_law_X7_scour : GoodIn wsL_law wsX7_scour := goodIn_r _ [256, 129, 71, 257, 1004, 1005, 1006, 1007, 1008, 1009, 1010, 1039, 1040, 1041, 1042, 1043, 1044, 1045, 1046, 1047, 1048, 1049, 1050, 1051, 1052, 1053, 1054, 1055, 1056, 1057, 1058] (by decide +kernel) (by decide +kernel)
set_option maxRecDepth 20000 in
theorem gL_law_X7_scour : GoodIn wsL_law (wsV RL 118 RX7 yX7_scour wsX7_scour) := goodIn_app (goodIn_of _ (by decide +kernel)) ggL_law_X7_scour
set_option maxRecDepth 20000 in
theorem ggL_law_L_hours : GoodIn wsL_law wsL_hours := goodIn_ca (goodIn_r _ [260, 107, 261, 262, 263, 2, 264, 112, 113, 17, 265, 266, 117, 118, 119, 267, 268, 269, 16, 270, 25, 38, 39, 271, 272, 273, 24, 274, 275, 998, 999, 1000, 1001, 1002, 1003, 1011, 1012, 1013, 1014, 1015, 1016, 1017, 1018, 1019, 1020] (by decide +kernel) (by decide +kernel)) (goodIn_sub (fun _ h => List.mem_append_left _ (List.mem_append_left _ (List.mem_append_right _ h))) (by decide +kernel))
set_option maxRecDepth 20000 in
theorem gL_law_L_hours : GoodIn wsL_law (va_wsS RL 119 yL_hours wsL_hours) := goodIn_app (goodIn_of _ (by decide +kernel)) ggL_law_L_hours
set_option maxRecDepth 20000 in
theorem ggL_law_X7_hours : GoodIn wsL_law wsX7_hours := goodIn_r _ [279, 129, 71, 280, 281, 132, 133, 5, 134, 135, 136, 137, 138, 282, 283, 284, 70, 285, 286, 287, 80, 1004, 1005, 1006, 1007, 1008, 1009, 1010, 1039, 1040, 1041, 1042, 1043, 1044, 1045, 1046, 1047, 1048, 1049, 1050, 1051, 1052, 1053, 1054, 1055, 1056, 1057, 1058] (by decide +kernel) (by decide +kernel)
set_option maxRecDepth 20000 in
theorem gL_law_X7_hours : GoodIn wsL_law (wsV RL 122 RX7 yX7_hours wsX7_hours) := goodIn_app (goodIn_of _ (by decide +kernel)) ggL_law_X7_hours
set_option maxRecDepth 20000 in
theorem ggL_law_X5_lock : GoodIn wsL_law wsX5_lock := goodIn_r _ [291, 226, 998, 999, 1000, 1001, 1002, 1003] (by decide +kernel) (by decide +kernel)
set_option maxRecDepth 20000 in
theorem gL_law_X5_lock : GoodIn wsL_law (wsV RL 123 RX5 yX5_lock wsX5_lock) := goodIn_app (goodIn_of _ (by decide +kernel)) ggL_law_X5_lock
set_option maxRecDepth 20000 in
theorem ggL_law_X7_lock : GoodIn wsL_law wsX7_lock := goodIn_r _ [295, 129, 233, 1004, 1005, 1006, 1007, 1008, 1009, 1010] (by decide +kernel) (by decide +kernel)
set_option maxRecDepth 20000 in
theorem gL_law_X7_lock : GoodIn wsL_law (wsV RL 126 RX7 yX7_lock wsX7_lock) := goodIn_app (goodIn_of _ (by decide +kernel)) ggL_law_X7_lock
set_option maxRecDepth 20000 in
theorem ggL_law_X5_bell : GoodIn wsL_law wsX5_bell := goodIn_r _ [299, 300, 998, 999, 1000, 1001, 1002, 1003] (by decide +kernel) (by decide +kernel)
set_option maxRecDepth 20000 in
theorem gL_law_X5_bell : GoodIn wsL_law (wsV RL 127 RX5 yX5_bell wsX5_bell) := goodIn_app (goodIn_of _ (by decide +kernel)) ggL_law_X5_bell
set_option maxRecDepth 20000 in
theorem ggL_law_X7_bell : GoodIn wsL_law wsX7_bell := goodIn_r _ [304, 129, 305, 1004, 1005, 1006, 1007, 1008, 1009, 1010] (by decide +kernel) (by decide +kernel)
set_option maxRecDepth 20000 in
theorem gL_law_X7_bell : GoodIn wsL_law (wsV RL 130 RX7 yX7_bell wsX7_bell) := goodIn_app (goodIn_of _ (by decide +kernel)) ggL_law_X7_bell
set_option maxRecDepth 20000 in
theorem ggL_law_L_pair : GoodIn wsL_law wsL_pair := goodIn_ca (goodIn_r _ [308, 219, 309, 310, 311, 2, 312, 224, 225, 17, 313, 314, 315, 316, 317, 36, 318, 319, 61, 998, 999, 1000, 1001, 1002, 1003, 1011, 1012, 1013, 1014, 1015, 1016, 1017, 1034, 1035, 1036, 1037, 1038] (by decide +kernel) (by decide +kernel)) (goodIn_sub (fun _ h => List.mem_append_left _ (List.mem_append_right _ h)) (by decide +kernel))
set_option maxRecDepth 20000 in
theorem gL_law_L_pair : GoodIn wsL_law (va_wsS RL 131 yL_pair wsL_pair) := goodIn_app (goodIn_of _ (by decide +kernel)) ggL_law_L_pair
set_option maxRecDepth 20000 in
theorem ggL_law_X7_pair : GoodIn wsL_law wsX7_pair := goodIn_r _ [323, 129, 71, 324, 325, 135, 136, 137, 5, 138, 1004, 1005, 1006, 1007, 1008, 1009, 1010, 1039, 1040, 1041, 1042, 1043, 1044, 1045, 1046, 1047, 1048, 1049, 1050, 1051, 1052, 1053, 1054, 1055, 1056, 1057, 1058] (by decide +kernel) (by decide +kernel)
set_option maxRecDepth 20000 in
theorem gL_law_X7_pair : GoodIn wsL_law (wsV RL 134 RX7 yX7_pair wsX7_pair) := goodIn_app (goodIn_of _ (by decide +kernel)) ggL_law_X7_pair
set_option maxRecDepth 20000 in
theorem ggL_law_L_lot : GoodIn wsL_law wsL_lot := goodIn_ca (goodIn_ca (goodIn_r _ [328, 107, 219, 329, 330, 331, 2, 332, 112, 113, 224, 225, 17, 333, 334, 114, 117, 118, 119, 335, 336, 337, 24, 338, 275, 339, 340, 341, 32, 342, 343, 50, 51, 52, 53, 54, 55, 998, 999, 1000, 1001, 1002, 1003, 1011, 1012, 1013, 1014, 1015, 1016, 1017, 1027, 1028, 1029, 1030, 1031, 1032, 1033, 1018, 1019, 1020] (by decide +kernel) (by decide +kernel)) (goodIn_sub (fun _ h => List.mem_append_left _ (List.mem_append_left _ (List.mem_append_right _ h))) (by decide +kernel))) (goodIn_sub (fun _ h => List.mem_append_left _ (List.mem_append_right _ h)) (by decide +kernel))
set_option maxRecDepth 20000 in
theorem gL_law_L_lot : GoodIn wsL_law (va_wsS RL 135 yL_lot wsL_lot) := goodIn_app (goodIn_of _ (by decide +kernel)) ggL_law_L_lot
set_option maxRecDepth 20000 in
theorem ggL_law_X7_lot : GoodIn wsL_law wsX7_lot := goodIn_r _ [347, 129, 75, 49, 71, 131, 348, 132, 133, 5, 134, 135, 136, 137, 138, 349, 350, 351, 74, 352, 353, 354, 355, 356, 357, 358, 359, 92, 360, 361, 362, 363, 364, 365, 366, 367, 368, 369, 370, 371, 91, 372, 373, 178, 374, 375, 376, 377, 378, 379, 380, 381, 382, 383, 384, 385, 386, 387, 388, 389, 390, 391, 392, 393, 394, 395, 396, 397, 398, 181, 182, 399, 400, 401, 402, 1004, 1005, 1006, 1007, 1008, 1009, 1010, 1039, 1040, 1041, 1042, 1043, 1044, 1045, 1046, 1047, 1048, 1049, 1050, 1051, 1052, 1053, 1054, 1055, 1056, 1057, 1058, 1059, 1060, 1061] (by decide +kernel) (by decide +kernel)
set_option maxRecDepth 20000 in
theorem gL_law_X7_lot : GoodIn wsL_law (wsV RL 138 RX7 yX7_lot wsX7_lot) := goodIn_app (goodIn_of _ (by decide +kernel)) ggL_law_X7_lot
set_option maxRecDepth 20000 in
theorem ggL_law_L_feed : GoodIn wsL_law wsL_feed := goodIn_ca (goodIn_ca (goodIn_r _ [405, 406, 219, 407, 408, 409, 2, 410, 411, 412, 224, 225, 17, 313, 333, 413, 414, 415, 416, 417, 36, 418, 319, 419, 420, 421, 32, 422, 343, 423, 424, 425, 426, 61, 62, 427, 428, 429, 430, 54, 998, 999, 1000, 1001, 1002, 1003, 1011, 1012, 1013, 1014, 1015, 1016, 1017, 1027, 1028, 1029, 1030, 1031, 1032, 1033, 1034, 1035, 1036, 1037, 1038] (by decide +kernel) (by decide +kernel)) (goodIn_sub (fun _ h => List.mem_append_right _ h) (by decide +kernel))) (goodIn_sub (fun _ h => List.mem_append_left _ (List.mem_append_right _ h)) (by decide +kernel))
set_option maxRecDepth 20000 in
theorem gL_law_L_feed : GoodIn wsL_law (va_wsS RL 139 yL_feed wsL_feed) := goodIn_app (goodIn_of _ (by decide +kernel)) ggL_law_L_feed
set_option maxRecDepth 20000 in
theorem ggL_law_X7_feed : GoodIn wsL_law wsX7_feed := goodIn_r _ [434, 129, 75, 435, 71, 325, 436, 437, 438, 439, 5, 440, 324, 132, 133, 134, 441, 442, 443, 444, 349, 350, 351, 74, 352, 353, 135, 136, 137, 138, 445, 446, 447, 448, 449, 450, 451, 452, 453, 454, 455, 456, 457, 458, 459, 460, 92, 461, 462, 463, 464, 1004, 1005, 1006, 1007, 1008, 1009, 1010, 1039, 1040, 1041, 1042, 1043, 1044, 1045, 1046, 1047, 1048, 1049, 1050, 1051, 1052, 1053, 1054, 1055, 1056, 1057, 1058, 1059, 1060, 1061] (by decide +kernel) (by decide +kernel)
set_option maxRecDepth 20000 in
theorem gL_law_X7_feed : GoodIn wsL_law (wsV RL 141 RX7 yX7_feed wsX7_feed) := goodIn_app (goodIn_of _ (by decide +kernel)) ggL_law_X7_feed
set_option maxRecDepth 20000 in
theorem ggL_law_L_take : GoodIn wsL_law wsL_take := goodIn_ca (goodIn_ca (goodIn_r _ [467, 406, 219, 468, 469, 470, 2, 471, 411, 412, 224, 225, 17, 313, 414, 333, 413, 415, 416, 417, 36, 418, 319, 419, 420, 421, 32, 422, 343, 998, 999, 1000, 1001, 1002, 1003, 1011, 1012, 1013, 1014, 1015, 1016, 1017, 1034, 1035, 1036, 1037, 1038, 1027, 1028, 1029, 1030, 1031, 1032, 1033] (by decide +kernel) (by decide +kernel)) (goodIn_sub (fun _ h => List.mem_append_right _ h) (by decide +kernel))) (goodIn_sub (fun _ h => List.mem_append_left _ (List.mem_append_right _ h)) (by decide +kernel))
set_option maxRecDepth 20000 in
theorem gL_law_L_take : GoodIn wsL_law (va_wsS RL 142 yL_take wsL_take) := goodIn_app (goodIn_of _ (by decide +kernel)) ggL_law_L_take
set_option maxRecDepth 20000 in
theorem ggL_law_X7_take : GoodIn wsL_law wsX7_take := goodIn_r _ [475, 129, 71, 325, 75, 435, 437, 438, 439, 5, 440, 324, 132, 133, 134, 135, 136, 137, 138, 445, 446, 447, 74, 448, 353, 449, 450, 451, 452, 453, 454, 455, 456, 457, 458, 459, 460, 92, 1004, 1005, 1006, 1007, 1008, 1009, 1010, 1039, 1040, 1041, 1042, 1043, 1044, 1045, 1046, 1047, 1048, 1049, 1050, 1051, 1052, 1053, 1054, 1055, 1056, 1057, 1058, 1059, 1060, 1061] (by decide +kernel) (by decide +kernel)
set_option maxRecDepth 20000 in
theorem gL_law_X7_take : GoodIn wsL_law (wsV RL 144 RX7 yX7_take wsX7_take) := goodIn_app (goodIn_of _ (by decide +kernel)) ggL_law_X7_take
set_option maxRecDepth 20000 in
theorem ggL_law_L_dress : GoodIn wsL_law wsL_dress := goodIn_ca (goodIn_ca (goodIn_r _ [478, 406, 219, 479, 480, 481, 2, 482, 411, 412, 224, 225, 17, 313, 483, 484, 485, 415, 416, 417, 36, 418, 319, 423, 424, 425, 426, 61, 62, 486, 487, 488, 998, 999, 1000, 1001, 1002, 1003, 1011, 1012, 1013, 1014, 1015, 1016, 1017, 1034, 1035, 1036, 1037, 1038] (by decide +kernel) (by decide +kernel)) (goodIn_sub (fun _ h => List.mem_append_right _ h) (by decide +kernel))) (goodIn_sub (fun _ h => List.mem_append_left _ (List.mem_append_right _ h)) (by decide +kernel))
set_option maxRecDepth 20000 in
theorem gL_law_L_dress : GoodIn wsL_law (va_wsS RL 145 yL_dress wsL_dress) := goodIn_app (goodIn_of _ (by decide +kernel)) ggL_law_L_dress
set_option maxRecDepth 20000 in
theorem ggL_law_X7_dress : GoodIn wsL_law wsX7_dress := goodIn_r _ [492, 129, 71, 325, 436, 493, 494, 437, 438, 439, 5, 440, 324, 132, 133, 134, 135, 136, 137, 138, 495, 496, 497, 498, 499, 500, 501, 502, 503, 504, 505, 506, 507, 508, 509, 510, 511, 512, 513, 514, 515, 516, 517, 518, 519, 520, 521, 522, 1004, 1005, 1006, 1007, 1008, 1009, 1010, 1039, 1040, 1041, 1042, 1043, 1044, 1045, 1046, 1047, 1048, 1049, 1050, 1051, 1052, 1053, 1054, 1055, 1056, 1057, 1058] (by decide +kernel) (by decide +kernel)
set_option maxRecDepth 20000 in
theorem gL_law_X7_dress : GoodIn wsL_law (wsV RL 147 RX7 yX7_dress wsX7_dress) := goodIn_app (goodIn_of _ (by decide +kernel)) ggL_law_X7_dress
set_option maxRecDepth 20000 in
theorem ggL_law_L_give : GoodIn wsL_law wsL_give := goodIn_ca (goodIn_ca (goodIn_r _ [525, 406, 219, 526, 527, 528, 2, 529, 411, 412, 224, 225, 17, 333, 413, 530, 114, 531, 532, 373, 178, 374, 533, 534, 535, 536, 419, 420, 421, 32, 422, 343, 335, 336, 337, 24, 338, 275, 537, 538, 539, 998, 999, 1000, 1001, 1002, 1003, 1011, 1012, 1013, 1014, 1015, 1016, 1017, 1027, 1028, 1029, 1030, 1031, 1032, 1033, 1018, 1019, 1020] (by decide +kernel) (by decide +kernel)) (goodIn_sub (fun _ h => List.mem_append_right _ h) (by decide +kernel))) (goodIn_sub (fun _ h => List.mem_append_left _ (List.mem_append_right _ h)) (by decide +kernel))
set_option maxRecDepth 20000 in
theorem gL_law_L_give : GoodIn wsL_law (va_wsS RL 148 yL_give wsL_give) := goodIn_app (goodIn_of _ (by decide +kernel)) ggL_law_L_give
set_option maxRecDepth 20000 in
theorem ggL_law_X7_give : GoodIn wsL_law wsX7_give := goodIn_r _ [543, 129, 75, 435, 544, 545, 71, 131, 546, 373, 178, 374, 547, 441, 442, 443, 5, 444, 349, 350, 351, 74, 352, 353, 132, 133, 134, 135, 136, 137, 138, 445, 446, 447, 448, 449, 450, 451, 452, 453, 454, 455, 456, 457, 458, 459, 460, 92, 1004, 1005, 1006, 1007, 1008, 1009, 1010, 1039, 1040, 1041, 1042, 1043, 1044, 1045, 1046, 1047, 1048, 1049, 1050, 1051, 1052, 1053, 1054, 1055, 1056, 1057, 1058, 1059, 1060, 1061] (by decide +kernel) (by decide +kernel)
set_option maxRecDepth 20000 in
theorem gL_law_X7_give : GoodIn wsL_law (wsV RL 150 RX7 yX7_give wsX7_give) := goodIn_app (goodIn_of _ (by decide +kernel)) ggL_law_X7_give
set_option maxRecDepth 20000 in
theorem ggL_law_L_pass : GoodIn wsL_law wsL_pass := goodIn_ca (goodIn_ca (goodIn_r _ [550, 107, 219, 551, 552, 553, 2, 554, 112, 113, 224, 225, 17, 114, 116, 333, 117, 118, 119, 555, 556, 557, 16, 558, 559, 560, 561, 562, 29, 25, 563, 37, 564, 33, 565, 566, 567, 158, 159, 24, 160, 161, 162, 163, 164, 165, 166, 167, 168, 169, 170, 171, 172, 173, 174, 175, 176, 177, 178, 179, 180, 181, 182, 183, 121, 122, 123, 124, 184, 185, 186, 187, 568, 569, 570, 28, 571, 572, 573, 574, 575, 576, 577, 578, 579, 580, 581, 582, 583, 584, 585, 586, 587, 588, 589, 590, 591, 592, 593, 594, 595, 596, 597, 598, 599, 600, 601, 268, 269, 270, 38, 39, 271, 272, 273, 274, 275, 602, 603, 604, 36, 605, 319, 62, 606, 607, 608, 609, 60, 610, 611, 612, 613, 61, 63, 614, 615, 420, 421, 32, 422, 343, 616, 617, 618, 619, 620, 621, 622, 623, 624, 625, 626, 55, 51, 54, 627, 628, 629, 630, 631, 632, 633, 634, 635, 636, 637, 638, 639, 640, 641, 642, 427, 428, 429, 430, 998, 999, 1000, 1001, 1002, 1003, 1011, 1012, 1013, 1014, 1015, 1016, 1017, 1018, 1019, 1020, 1021, 1022, 1023, 1024, 1025, 1026, 1034, 1035, 1036, 1037, 1038, 1027, 1028, 1029, 1030, 1031, 1032, 1033] (by decide +kernel) (by decide +kernel)) (goodIn_sub (fun _ h => List.mem_append_left _ (List.mem_append_left _ (List.mem_append_right _ h))) (by decide +kernel))) (goodIn_sub (fun _ h => List.mem_append_left _ (List.mem_append_right _ h)) (by decide +kernel))
set_option maxRecDepth 20000 in
theorem gL_law_L_pass : GoodIn wsL_law (va_wsS RL 151 yL_pass wsL_pass) := goodIn_app (goodIn_of _ (by decide +kernel)) ggL_law_L_pass
set_option maxRecDepth 20000 in
theorem ggL_law_X7_pass : GoodIn wsL_law wsX7_pass := goodIn_r _ [646, 129, 71, 131, 132, 133, 5, 134, 135, 136, 137, 138, 647, 648, 649, 70, 650, 286, 651, 652, 202, 653, 654, 655, 656, 657, 658, 208, 659, 660, 661, 662, 663, 195, 196, 197, 198, 199, 200, 201, 203, 204, 205, 206, 207, 209, 210, 211, 212, 213, 181, 178, 182, 214, 177, 179, 215, 140, 141, 142, 143, 664, 665, 666, 667, 668, 669, 670, 497, 671, 672, 673, 674, 675, 676, 677, 678, 679, 520, 509, 510, 511, 680, 681, 682, 683, 684, 685, 686, 687, 83, 81, 82, 84, 688, 283, 284, 285, 287, 80, 689, 690, 691, 692, 78, 693, 85, 694, 695, 87, 696, 446, 447, 74, 448, 353, 449, 450, 451, 452, 453, 454, 455, 456, 457, 458, 459, 460, 92, 697, 698, 699, 700, 701, 702, 703, 75, 704, 435, 349, 350, 351, 352, 445, 461, 462, 463, 464, 1004, 1005, 1006, 1007, 1008, 1009, 1010, 1039, 1040, 1041, 1042, 1043, 1044, 1045, 1046, 1047, 1048, 1049, 1050, 1051, 1052, 1053, 1054, 1055, 1056, 1057, 1058, 1059, 1060, 1061] (by decide +kernel) (by decide +kernel)
set_option maxRecDepth 20000 in
theorem gL_law_X7_pass : GoodIn wsL_law (wsV RL 153 RX7 yX7_pass wsX7_pass) := goodIn_app (goodIn_of _ (by decide +kernel)) ggL_law_X7_pass
set_option maxRecDepth 20000 in
theorem ggL_law_L_sea : GoodIn wsL_law wsL_sea := goodIn_ca (goodIn_r _ [707, 107, 708, 709, 710, 2, 711, 112, 113, 17, 114, 116, 117, 118, 119, 157, 158, 159, 24, 160, 161, 162, 163, 164, 165, 166, 167, 168, 169, 170, 171, 172, 173, 174, 175, 176, 177, 178, 179, 180, 181, 182, 183, 121, 122, 123, 124, 184, 185, 186, 187, 998, 999, 1000, 1001, 1002, 1003, 1011, 1012, 1013, 1014, 1015, 1016, 1017, 1018, 1019, 1020] (by decide +kernel) (by decide +kernel)) (goodIn_sub (fun _ h => List.mem_append_left _ (List.mem_append_left _ (List.mem_append_right _ h))) (by decide +kernel))
set_option maxRecDepth 20000 in
theorem gL_law_L_sea : GoodIn wsL_law (va_wsS RL 154 yL_sea wsL_sea) := goodIn_app (goodIn_of _ (by decide +kernel)) ggL_law_L_sea
set_option maxRecDepth 20000 in
theorem ggL_law_X7_sea : GoodIn wsL_law wsX7_sea := goodIn_r _ [715, 129, 71, 131, 132, 133, 5, 134, 135, 136, 137, 138, 194, 195, 196, 70, 197, 198, 199, 200, 201, 202, 203, 204, 205, 206, 207, 208, 209, 210, 211, 212, 213, 181, 178, 182, 214, 177, 179, 215, 140, 141, 142, 143, 1004, 1005, 1006, 1007, 1008, 1009, 1010, 1039, 1040, 1041, 1042, 1043, 1044, 1045, 1046, 1047, 1048, 1049, 1050, 1051, 1052, 1053, 1054, 1055, 1056, 1057, 1058] (by decide +kernel) (by decide +kernel)
set_option maxRecDepth 20000 in
theorem gL_law_X7_sea : GoodIn wsL_law (wsV RL 156 RX7 yX7_sea wsX7_sea) := goodIn_app (goodIn_of _ (by decide +kernel)) ggL_law_X7_sea
set_option maxRecDepth 20000 in
theorem ggL_law_L_pond : GoodIn wsL_law wsL_pond := goodIn_ca (goodIn_r _ [718, 107, 719, 720, 721, 2, 722, 112, 113, 117, 118, 119, 723, 724, 725, 726, 17, 227, 727, 728, 729, 534, 114, 116, 730, 583, 584, 28, 585, 586, 579, 731, 167, 168, 24, 169, 170, 171, 172, 173, 174, 175, 176, 177, 178, 179, 180, 181, 182, 183, 121, 122, 123, 124, 998, 999, 1000, 1001, 1002, 1003, 1011, 1012, 1013, 1014, 1015, 1016, 1017, 1021, 1022, 1023, 1024, 1025, 1026, 1018, 1019, 1020] (by decide +kernel) (by decide +kernel)) (goodIn_sub (fun _ h => List.mem_append_left _ (List.mem_append_left _ (List.mem_append_right _ h))) (by decide +kernel))
set_option maxRecDepth 20000 in
theorem gL_law_L_pond : GoodIn wsL_law (va_wsS RL 157 yL_pond wsL_pond) := goodIn_app (goodIn_of _ (by decide +kernel)) ggL_law_L_pond
set_option maxRecDepth 20000 in
theorem ggL_law_X7_pond : GoodIn wsL_law wsX7_pond := goodIn_r _ [735, 129, 132, 133, 5, 134, 135, 136, 137, 138, 736, 737, 738, 739, 71, 740, 741, 742, 544, 131, 743, 665, 666, 70, 667, 668, 654, 744, 204, 205, 206, 207, 208, 209, 210, 211, 212, 213, 181, 178, 182, 214, 177, 179, 215, 140, 141, 142, 143, 1004, 1005, 1006, 1007, 1008, 1009, 1010, 1039, 1040, 1041, 1042, 1043, 1044, 1045, 1046, 1047, 1048, 1049, 1050, 1051, 1052, 1053, 1054, 1055, 1056, 1057, 1058] (by decide +kernel) (by decide +kernel)
set_option maxRecDepth 20000 in
theorem gL_law_X7_pond : GoodIn wsL_law (wsV RL 159 RX7 yX7_pond wsX7_pond) := goodIn_app (goodIn_of _ (by decide +kernel)) ggL_law_X7_pond
set_option maxRecDepth 20000 in
theorem ggL_law_L_ofPair : GoodIn wsL_law wsL_ofPair := goodIn_ca (goodIn_ca (goodIn_r _ [747, 406, 107, 748, 749, 750, 2, 751, 411, 412, 112, 113, 17, 313, 415, 416, 417, 36, 418, 319, 117, 118, 119, 752, 753, 754, 755, 414, 483, 756, 998, 999, 1000, 1001, 1002, 1003, 1011, 1012, 1013, 1014, 1015, 1016, 1017, 1034, 1035, 1036, 1037, 1038] (by decide +kernel) (by decide +kernel)) (goodIn_sub (fun _ h => List.mem_append_right _ h) (by decide +kernel))) (goodIn_sub (fun _ h => List.mem_append_left _ (List.mem_append_left _ (List.mem_append_right _ h))) (by decide +kernel))
set_option maxRecDepth 20000 in
theorem gL_law_L_ofPair : GoodIn wsL_law (va_wsS RL 160 yL_ofPair wsL_ofPair) := goodIn_app (goodIn_of _ (by decide +kernel)) ggL_law_L_ofPair
set_option maxRecDepth 20000 in
theorem ggL_law_X7_ofPair : GoodIn wsL_law wsX7_ofPair := goodIn_r _ [760, 129, 437, 438, 439, 5, 440, 71, 324, 132, 133, 134, 135, 136, 137, 138, 761, 762, 763, 764, 325, 436, 765, 1004, 1005, 1006, 1007, 1008, 1009, 1010, 1039, 1040, 1041, 1042, 1043, 1044, 1045, 1046, 1047, 1048, 1049, 1050, 1051, 1052, 1053, 1054, 1055, 1056, 1057, 1058] (by decide +kernel) (by decide +kernel)
set_option maxRecDepth 20000 in
theorem gL_law_X7_ofPair : GoodIn wsL_law (wsV RL 162 RX7 yX7_ofPair wsX7_ofPair) := goodIn_app (goodIn_of _ (by decide +kernel)) ggL_law_X7_ofPair
set_option maxRecDepth 20000 in
theorem ggL_law_L_dull : GoodIn wsL_law wsL_dull := goodIn_ca (goodIn_r _ [768, 406, 769, 770, 771, 2, 772, 411, 412, 17, 313, 485, 415, 416, 417, 36, 418, 319, 998, 999, 1000, 1001, 1002, 1003, 1011, 1012, 1013, 1014, 1015, 1016, 1017, 1034, 1035, 1036, 1037, 1038] (by decide +kernel) (by decide +kernel)) (goodIn_sub (fun _ h => List.mem_append_right _ h) (by decide +kernel))
set_option maxRecDepth 20000 in
theorem gL_law_L_dull : GoodIn wsL_law (va_wsS RL 163 yL_dull wsL_dull) := goodIn_app (goodIn_of _ (by decide +kernel)) ggL_law_L_dull
set_option maxRecDepth 20000 in
theorem ggL_law_X7_dull : GoodIn wsL_law wsX7_dull := goodIn_r _ [776, 129, 71, 494, 437, 438, 439, 5, 440, 324, 132, 133, 134, 135, 136, 137, 138, 1004, 1005, 1006, 1007, 1008, 1009, 1010, 1039, 1040, 1041, 1042, 1043, 1044, 1045, 1046, 1047, 1048, 1049, 1050, 1051, 1052, 1053, 1054, 1055, 1056, 1057, 1058] (by decide +kernel) (by decide +kernel)
set_option maxRecDepth 20000 in
theorem gL_law_X7_dull : GoodIn wsL_law (wsV RL 165 RX7 yX7_dull wsX7_dull) := goodIn_app (goodIn_of _ (by decide +kernel)) ggL_law_X7_dull
set_option maxRecDepth 20000 in
theorem ggL_law_L_ofLot : GoodIn wsL_law wsL_ofLot := goodIn_ca (goodIn_ca (goodIn_r _ [779, 406, 107, 780, 781, 782, 2, 783, 411, 412, 112, 113, 17, 333, 419, 420, 421, 32, 422, 343, 117, 118, 119, 784, 785, 786, 787, 788, 533, 530, 531, 413, 313, 789, 790, 791, 36, 792, 319, 61, 998, 999, 1000, 1001, 1002, 1003, 1011, 1012, 1013, 1014, 1015, 1016, 1017, 1027, 1028, 1029, 1030, 1031, 1032, 1033, 1034, 1035, 1036, 1037, 1038] (by decide +kernel) (by decide +kernel)) (goodIn_sub (fun _ h => List.mem_append_right _ h) (by decide +kernel))) (goodIn_sub (fun _ h => List.mem_append_left _ (List.mem_append_left _ (List.mem_append_right _ h))) (by decide +kernel))
set_option maxRecDepth 20000 in
theorem gL_law_L_ofLot : GoodIn wsL_law (va_wsS RL 166 yL_ofLot wsL_ofLot) := goodIn_app (goodIn_of _ (by decide +kernel)) ggL_law_L_ofLot
set_option maxRecDepth 20000 in
theorem ggL_law_X7_ofLot : GoodIn wsL_law wsX7_ofLot := goodIn_r _ [796, 129, 441, 442, 443, 5, 444, 75, 349, 350, 351, 74, 352, 353, 132, 133, 134, 135, 136, 137, 138, 797, 798, 799, 800, 71, 435, 801, 802, 803, 70, 804, 661, 82, 445, 446, 447, 448, 449, 450, 451, 452, 453, 454, 455, 456, 457, 458, 459, 460, 92, 1004, 1005, 1006, 1007, 1008, 1009, 1010, 1059, 1060, 1061, 1039, 1040, 1041, 1042, 1043, 1044, 1045, 1046, 1047, 1048, 1049, 1050, 1051, 1052, 1053, 1054, 1055, 1056, 1057, 1058] (by decide +kernel) (by decide +kernel)
set_option maxRecDepth 20000 in
theorem gL_law_X7_ofLot : GoodIn wsL_law (wsV RL 168 RX7 yX7_ofLot wsX7_ofLot) := goodIn_app (goodIn_of _ (by decide +kernel)) ggL_law_X7_ofLot
set_option maxRecDepth 20000 in
theorem ggL_law_L_left : GoodIn wsL_law wsL_left := goodIn_ca (goodIn_r _ [807, 406, 808, 809, 810, 2, 811, 411, 412, 17, 333, 812, 419, 420, 421, 32, 422, 343, 998, 999, 1000, 1001, 1002, 1003, 1011, 1012, 1013, 1014, 1015, 1016, 1017, 1027, 1028, 1029, 1030, 1031, 1032, 1033] (by decide +kernel) (by decide +kernel)) (goodIn_sub (fun _ h => List.mem_append_right _ h) (by decide +kernel))
set_option maxRecDepth 20000 in
theorem gL_law_L_left : GoodIn wsL_law (va_wsS RL 169 yL_left wsL_left) := goodIn_app (goodIn_of _ (by decide +kernel)) ggL_law_L_left
set_option maxRecDepth 20000 in
theorem ggL_law_X7_left : GoodIn wsL_law wsX7_left := goodIn_r _ [816, 129, 71, 348, 441, 442, 443, 5, 444, 75, 349, 350, 351, 74, 352, 353, 132, 133, 134, 135, 136, 137, 138, 1004, 1005, 1006, 1007, 1008, 1009, 1010, 1039, 1040, 1041, 1042, 1043, 1044, 1045, 1046, 1047, 1048, 1049, 1050, 1051, 1052, 1053, 1054, 1055, 1056, 1057, 1058, 1059, 1060, 1061] (by decide +kernel) (by decide +kernel)
set_option maxRecDepth 20000 in
theorem gL_law_X7_left : GoodIn wsL_law (wsV RL 171 RX7 yX7_left wsX7_left) := goodIn_app (goodIn_of _ (by decide +kernel)) ggL_law_X7_left
set_option maxRecDepth 20000 in
theorem ggL_law_L_many : GoodIn wsL_law wsL_many := goodIn_ca (goodIn_r _ [819, 107, 820, 821, 822, 2, 823, 112, 113, 117, 118, 119, 824, 825, 826, 827, 17, 114, 116, 227, 228, 242, 313, 314, 333, 334, 828, 536, 300, 226, 335, 336, 337, 24, 338, 275, 120, 121, 122, 123, 124, 829, 173, 174, 175, 176, 177, 178, 179, 180, 181, 182, 183, 427, 428, 429, 32, 430, 343, 54, 830, 831, 832, 36, 833, 319, 63, 267, 268, 269, 16, 270, 25, 38, 39, 271, 272, 273, 274, 998, 999, 1000, 1001, 1002, 1003, 1011, 1012, 1013, 1014, 1015, 1016, 1017, 1018, 1019, 1020, 1021, 1022, 1023, 1024, 1025, 1026, 1034, 1035, 1036, 1037, 1038, 1027, 1028, 1029, 1030, 1031, 1032, 1033] (by decide +kernel) (by decide +kernel)) (goodIn_sub (fun _ h => List.mem_append_left _ (List.mem_append_left _ (List.mem_append_right _ h))) (by decide +kernel))
set_option maxRecDepth 20000 in
theorem gL_law_L_many : GoodIn wsL_law (va_wsS RL 172 yL_many wsL_many) := goodIn_app (goodIn_of _ (by decide +kernel)) ggL_law_L_many
set_option maxRecDepth 20000 in
theorem ggL_law_X7_many : GoodIn wsL_law wsX7_many := goodIn_r _ [837, 129, 132, 133, 5, 134, 135, 136, 137, 138, 838, 839, 840, 841, 71, 765, 49, 131, 234, 247, 324, 75, 842, 547, 305, 233, 139, 140, 141, 70, 142, 143, 843, 210, 211, 212, 213, 181, 178, 182, 214, 177, 179, 215, 349, 350, 351, 74, 352, 353, 461, 462, 463, 464, 435, 445, 446, 447, 448, 449, 450, 451, 452, 453, 454, 455, 456, 457, 458, 459, 460, 92, 282, 283, 284, 285, 286, 287, 80, 1004, 1005, 1006, 1007, 1008, 1009, 1010, 1039, 1040, 1041, 1042, 1043, 1044, 1045, 1046, 1047, 1048, 1049, 1050, 1051, 1052, 1053, 1054, 1055, 1056, 1057, 1058, 1059, 1060, 1061] (by decide +kernel) (by decide +kernel)
set_option maxRecDepth 20000 in
theorem gL_law_X7_many : GoodIn wsL_law (wsV RL 174 RX7 yX7_many wsX7_many) := goodIn_app (goodIn_of _ (by decide +kernel)) ggL_law_X7_many
set_option maxRecDepth 20000 in
theorem ggL_law_L_ofOwner : GoodIn wsL_law wsL_ofOwner := goodIn_ca (goodIn_r _ [846, 406, 847, 848, 849, 2, 850, 411, 412, 17, 333, 117, 118, 119, 851, 852, 853, 32, 854, 343, 50, 54, 52, 998, 999, 1000, 1001, 1002, 1003, 1011, 1012, 1013, 1014, 1015, 1016, 1017, 1027, 1028, 1029, 1030, 1031, 1032, 1033] (by decide +kernel) (by decide +kernel)) (goodIn_sub (fun _ h => List.mem_append_right _ h) (by decide +kernel))
set_option maxRecDepth 20000 in
theorem gL_law_L_ofOwner : GoodIn wsL_law (va_wsS RL 175 yL_ofOwner wsL_ofOwner) := goodIn_app (goodIn_of _ (by decide +kernel)) ggL_law_L_ofOwner
set_option maxRecDepth 20000 in
theorem ggL_law_X7_ofOwner : GoodIn wsL_law wsX7_ofOwner := goodIn_r _ [858, 129, 132, 133, 5, 134, 135, 136, 137, 138, 859, 860, 861, 862, 75, 435, 349, 350, 351, 74, 352, 353, 445, 446, 447, 448, 449, 450, 451, 452, 453, 454, 455, 456, 457, 458, 459, 460, 92, 1004, 1005, 1006, 1007, 1008, 1009, 1010, 1059, 1060, 1061] (by decide +kernel) (by decide +kernel)
set_option maxRecDepth 20000 in
theorem gL_law_X7_ofOwner : GoodIn wsL_law (wsV RL 178 RX7 yX7_ofOwner wsX7_ofOwner) := goodIn_app (goodIn_of _ (by decide +kernel)) ggL_law_X7_ofOwner
set_option maxRecDepth 20000 in
theorem ggL_law_X5_high : GoodIn wsL_law wsX5_high := goodIn_r _ [866, 17, 114, 867, 868, 869, 24, 870, 275, 161, 871, 184, 185, 186, 187, 170, 998, 999, 1000, 1001, 1002, 1003, 1011, 1012, 1013, 1014, 1015, 1016, 1017, 1018, 1019, 1020] (by decide +kernel) (by decide +kernel)
set_option maxRecDepth 20000 in
theorem gL_law_X5_high : GoodIn wsL_law (wsV RL 179 RX5 yX5_high wsX5_high) := goodIn_app (goodIn_of _ (by decide +kernel)) ggL_law_X5_high
set_option maxRecDepth 20000 in
theorem ggL_law_X7_high : GoodIn wsL_law wsX7_high := goodIn_r _ [875, 129, 876, 877, 878, 5, 879, 71, 131, 880, 881, 882, 1004, 1005, 1006, 1007, 1008, 1009, 1010, 1039, 1040, 1041, 1042, 1043, 1044, 1045, 1046, 1047, 1048, 1049, 1050, 1051, 1052, 1053, 1054, 1055, 1056, 1057, 1058] (by decide +kernel) (by decide +kernel)
set_option maxRecDepth 20000 in
theorem gL_law_X7_high : GoodIn wsL_law (wsV RL 182 RX7 yX7_high wsX7_high) := goodIn_app (goodIn_of _ (by decide +kernel)) ggL_law_X7_high
set_option maxRecDepth 20000 in
theorem ggL_law_L_wouldLevel : GoodIn wsL_law wsL_wouldLevel := goodIn_ca (goodIn_r _ [885, 107, 886, 887, 888, 2, 889, 112, 113, 18, 17, 227, 727, 117, 118, 119, 890, 891, 892, 16, 893, 25, 29, 33, 37, 38, 39, 565, 894, 895, 896, 24, 897, 275, 124, 164, 898, 899, 900, 28, 901, 577, 579, 576, 593, 599, 592, 902, 903, 904, 32, 905, 50, 906, 400, 401, 402, 51, 52, 53, 54, 55, 343, 907, 908, 909, 36, 910, 60, 911, 61, 62, 63, 319, 555, 556, 557, 558, 559, 560, 561, 562, 563, 564, 566, 567, 158, 159, 160, 161, 162, 163, 165, 166, 167, 168, 169, 170, 171, 172, 173, 174, 175, 176, 177, 178, 179, 180, 181, 182, 183, 121, 122, 123, 184, 185, 186, 187, 568, 569, 570, 571, 572, 573, 574, 575, 578, 580, 581, 582, 583, 584, 585, 586, 587, 588, 589, 590, 591, 594, 595, 596, 597, 598, 600, 601, 268, 269, 270, 271, 272, 273, 274, 602, 603, 604, 605, 606, 607, 608, 609, 610, 611, 612, 613, 614, 615, 420, 421, 422, 616, 617, 618, 619, 620, 621, 622, 623, 624, 625, 626, 627, 628, 629, 630, 631, 632, 633, 634, 635, 636, 637, 638, 639, 640, 641, 642, 998, 999, 1000, 1001, 1002, 1003, 1011, 1012, 1013, 1014, 1015, 1016, 1017, 1021, 1022, 1023, 1024, 1025, 1026, 1018, 1019, 1020, 1027, 1028, 1029, 1030, 1031, 1032, 1033, 1034, 1035, 1036, 1037, 1038] (by decide +kernel) (by decide +kernel)) (goodIn_sub (fun _ h => List.mem_append_left _ (List.mem_append_left _ (List.mem_append_right _ h))) (by decide +kernel))
set_option maxRecDepth 20000 in
theorem gL_law_L_wouldLevel : GoodIn wsL_law (va_wsS RL 183 yL_wouldLevel wsL_wouldLevel) := goodIn_app (goodIn_of _ (by decide +kernel)) ggL_law_L_wouldLevel
set_option maxRecDepth 20000 in
theorem ggL_law_X7_wouldLevel : GoodIn wsL_law wsX7_wouldLevel := goodIn_r _ [915, 129, 71, 740, 132, 133, 5, 134, 135, 136, 137, 138, 916, 917, 918, 70, 919, 920, 69, 78, 286, 143, 201, 652, 654, 651, 658, 659, 287, 80, 661, 81, 921, 400, 401, 402, 82, 83, 85, 87, 922, 76, 77, 79, 12, 13, 59, 49, 84, 7, 86, 647, 648, 649, 650, 202, 653, 655, 656, 657, 208, 660, 662, 663, 195, 196, 197, 198, 199, 200, 203, 204, 205, 206, 207, 209, 210, 211, 212, 213, 181, 178, 182, 214, 177, 179, 215, 140, 141, 142, 664, 665, 666, 667, 668, 669, 670, 497, 671, 672, 673, 674, 675, 676, 677, 678, 679, 520, 509, 510, 511, 680, 681, 682, 683, 684, 685, 686, 687, 688, 283, 284, 285, 689, 690, 691, 692, 693, 694, 695, 696, 446, 447, 74, 448, 353, 449, 450, 451, 452, 453, 454, 455, 456, 457, 458, 459, 460, 92, 697, 698, 699, 1004, 1005, 1006, 1007, 1008, 1009, 1010, 1039, 1040, 1041, 1042, 1043, 1044, 1045, 1046, 1047, 1048, 1049, 1050, 1051, 1052, 1053, 1054, 1055, 1056, 1057, 1058, 1059, 1060, 1061] (by decide +kernel) (by decide +kernel)
set_option maxRecDepth 20000 in
theorem gL_law_X7_wouldLevel : GoodIn wsL_law (wsV RL 185 RX7 yX7_wouldLevel wsX7_wouldLevel) := goodIn_app (goodIn_of _ (by decide +kernel)) ggL_law_X7_wouldLevel
set_option maxRecDepth 20000 in
theorem ggL_law_L_wouldDone : GoodIn wsL_law wsL_wouldDone := goodIn_ca (goodIn_r _ [925, 406, 926, 927, 928, 2, 929, 411, 412, 17, 333, 419, 420, 421, 32, 422, 343, 930, 931, 932, 933, 413, 18, 890, 891, 892, 16, 893, 25, 29, 33, 37, 38, 39, 565, 894, 895, 896, 24, 897, 275, 124, 164, 898, 899, 900, 28, 901, 577, 579, 576, 593, 599, 592, 902, 903, 904, 905, 50, 906, 400, 401, 402, 51, 52, 53, 54, 55, 907, 908, 909, 36, 910, 60, 911, 61, 62, 63, 319, 934, 560, 561, 562, 563, 564, 566, 567, 158, 159, 160, 161, 162, 163, 165, 166, 167, 168, 169, 170, 171, 172, 173, 174, 175, 176, 177, 178, 179, 180, 181, 182, 183, 121, 122, 123, 184, 185, 186, 187, 568, 569, 570, 571, 572, 573, 574, 575, 578, 580, 581, 582, 583, 584, 585, 586, 587, 588, 589, 590, 591, 594, 595, 596, 597, 598, 600, 601, 268, 269, 270, 271, 272, 273, 274, 602, 603, 604, 605, 606, 607, 608, 609, 610, 611, 612, 613, 614, 615, 616, 617, 618, 619, 620, 621, 622, 623, 624, 625, 626, 627, 628, 629, 630, 631, 632, 633, 634, 635, 636, 637, 638, 639, 640, 641, 642, 998, 999, 1000, 1001, 1002, 1003, 1011, 1012, 1013, 1014, 1015, 1016, 1017, 1027, 1028, 1029, 1030, 1031, 1032, 1033, 1018, 1019, 1020, 1021, 1022, 1023, 1024, 1025, 1026, 1034, 1035, 1036, 1037, 1038] (by decide +kernel) (by decide +kernel)) (goodIn_sub (fun _ h => List.mem_append_right _ h) (by decide +kernel))
set_option maxRecDepth 20000 in
theorem gL_law_L_wouldDone : GoodIn wsL_law (va_wsS RL 186 yL_wouldDone wsL_wouldDone) := goodIn_app (goodIn_of _ (by decide +kernel)) ggL_law_L_wouldDone
set_option maxRecDepth 20000 in
theorem ggL_law_X7_wouldDone : GoodIn wsL_law wsX7_wouldDone := goodIn_r _ [938, 129, 441, 442, 443, 5, 444, 75, 349, 350, 351, 74, 352, 353, 132, 133, 134, 135, 136, 137, 138, 939, 940, 941, 942, 435, 71, 704, 445, 446, 447, 448, 449, 450, 451, 452, 453, 454, 455, 456, 457, 458, 459, 460, 92, 916, 917, 918, 70, 919, 920, 69, 78, 286, 143, 201, 652, 654, 651, 658, 659, 287, 80, 661, 81, 921, 400, 401, 402, 82, 83, 85, 87, 922, 76, 77, 79, 12, 13, 59, 49, 84, 7, 86, 647, 648, 649, 650, 202, 653, 655, 656, 657, 208, 660, 662, 663, 195, 196, 197, 198, 199, 200, 203, 204, 205, 206, 207, 209, 210, 211, 212, 213, 181, 178, 182, 214, 177, 179, 215, 140, 141, 142, 664, 665, 666, 667, 668, 669, 670, 497, 671, 672, 673, 674, 675, 676, 677, 678, 679, 520, 509, 510, 511, 680, 681, 682, 683, 684, 685, 686, 687, 688, 283, 284, 285, 689, 690, 691, 692, 693, 694, 695, 696, 697, 698, 699, 1004, 1005, 1006, 1007, 1008, 1009, 1010, 1059, 1060, 1061, 1039, 1040, 1041, 1042, 1043, 1044, 1045, 1046, 1047, 1048, 1049, 1050, 1051, 1052, 1053, 1054, 1055, 1056, 1057, 1058] (by decide +kernel) (by decide +kernel)
set_option maxRecDepth 20000 in
theorem gL_law_X7_wouldDone : GoodIn wsL_law (wsV RL 188 RX7 yX7_wouldDone wsX7_wouldDone) := goodIn_app (goodIn_of _ (by decide +kernel)) ggL_law_X7_wouldDone
set_option maxRecDepth 20000 in
theorem ggL_law_L_best : GoodIn wsL_law wsL_best := goodIn_ca (goodIn_r _ [945, 107, 946, 947, 948, 2, 949, 112, 113, 117, 118, 119, 950, 951, 952, 953, 954, 955, 956, 957, 18, 17, 227, 242, 333, 890, 891, 892, 16, 893, 25, 29, 33, 37, 38, 39, 565, 894, 895, 896, 24, 897, 275, 124, 164, 898, 899, 900, 28, 901, 577, 579, 576, 593, 599, 592, 902, 903, 904, 32, 905, 50, 906, 400, 401, 402, 51, 52, 53, 54, 55, 343, 907, 908, 909, 36, 910, 60, 911, 61, 62, 63, 319, 555, 556, 557, 558, 559, 560, 561, 562, 563, 564, 566, 567, 158, 159, 160, 161, 162, 163, 165, 166, 167, 168, 169, 170, 171, 172, 173, 174, 175, 176, 177, 178, 179, 180, 181, 182, 183, 121, 122, 123, 184, 185, 186, 187, 568, 569, 570, 571, 572, 573, 574, 575, 578, 580, 581, 582, 583, 584, 585, 586, 587, 588, 589, 590, 591, 594, 595, 596, 597, 598, 600, 601, 268, 269, 270, 271, 272, 273, 274, 602, 603, 604, 605, 606, 607, 608, 609, 610, 611, 612, 613, 614, 615, 420, 421, 422, 616, 617, 618, 619, 620, 621, 622, 623, 624, 625, 626, 627, 628, 629, 630, 631, 632, 633, 634, 635, 636, 637, 638, 639, 640, 641, 642, 958, 959, 960, 961, 998, 999, 1000, 1001, 1002, 1003, 1011, 1012, 1013, 1014, 1015, 1016, 1017, 1021, 1022, 1023, 1024, 1025, 1026, 1018, 1019, 1020, 1027, 1028, 1029, 1030, 1031, 1032, 1033, 1034, 1035, 1036, 1037, 1038] (by decide +kernel) (by decide +kernel)) (goodIn_sub (fun _ h => List.mem_append_left _ (List.mem_append_left _ (List.mem_append_right _ h))) (by decide +kernel))
set_option maxRecDepth 20000 in
theorem gL_law_L_best : GoodIn wsL_law (va_wsS RL 189 yL_best wsL_best) := goodIn_app (goodIn_of _ (by decide +kernel)) ggL_law_L_best
set_option maxRecDepth 20000 in
theorem ggL_law_X7_best : GoodIn wsL_law wsX7_best := goodIn_r _ [965, 129, 132, 133, 5, 134, 135, 136, 137, 138, 966, 967, 968, 969, 71, 247, 75, 348, 916, 917, 918, 70, 919, 920, 69, 78, 286, 143, 201, 652, 654, 651, 658, 659, 287, 80, 661, 81, 921, 400, 401, 402, 82, 83, 85, 87, 922, 76, 77, 79, 12, 13, 59, 49, 84, 7, 86, 647, 648, 649, 650, 202, 653, 655, 656, 657, 208, 660, 662, 663, 195, 196, 197, 198, 199, 200, 203, 204, 205, 206, 207, 209, 210, 211, 212, 213, 181, 178, 182, 214, 177, 179, 215, 140, 141, 142, 664, 665, 666, 667, 668, 669, 670, 497, 671, 672, 673, 674, 675, 676, 677, 678, 679, 520, 509, 510, 511, 680, 681, 682, 683, 684, 685, 686, 687, 688, 283, 284, 285, 689, 690, 691, 692, 693, 694, 695, 696, 446, 447, 74, 448, 353, 449, 450, 451, 452, 453, 454, 455, 456, 457, 458, 459, 460, 92, 697, 698, 699, 349, 350, 351, 352, 1004, 1005, 1006, 1007, 1008, 1009, 1010, 1039, 1040, 1041, 1042, 1043, 1044, 1045, 1046, 1047, 1048, 1049, 1050, 1051, 1052, 1053, 1054, 1055, 1056, 1057, 1058, 1059, 1060, 1061] (by decide +kernel) (by decide +kernel)
set_option maxRecDepth 20000 in
theorem gL_law_X7_best : GoodIn wsL_law (wsV RL 191 RX7 yX7_best wsX7_best) := goodIn_app (goodIn_of _ (by decide +kernel)) ggL_law_X7_best
set_option maxRecDepth 20000 in
theorem ggL_law_X5_digest : GoodIn wsL_law wsX5_digest := goodIn_r _ [973, 974, 17, 313, 314, 333, 334, 114, 824, 825, 826, 2, 827, 116, 227, 228, 242, 828, 536, 300, 226, 335, 336, 337, 24, 338, 275, 120, 121, 122, 123, 124, 829, 173, 174, 175, 176, 177, 178, 179, 180, 181, 182, 183, 427, 428, 429, 32, 430, 343, 54, 830, 831, 832, 36, 833, 319, 63, 267, 268, 269, 16, 270, 25, 38, 39, 271, 272, 273, 274, 975, 976, 977, 978, 723, 724, 725, 726, 727, 728, 729, 534, 730, 583, 584, 28, 585, 586, 579, 731, 167, 168, 169, 170, 171, 172, 979, 980, 981, 982, 983, 984, 985, 986, 485, 752, 753, 754, 755, 414, 483, 756, 987, 988, 989, 990, 812, 784, 785, 786, 787, 788, 533, 530, 531, 413, 789, 790, 791, 792, 61, 930, 931, 932, 933, 18, 890, 891, 892, 893, 29, 33, 37, 565, 894, 895, 896, 897, 164, 898, 899, 900, 901, 577, 576, 593, 599, 592, 902, 903, 904, 905, 50, 906, 400, 401, 402, 51, 52, 53, 55, 907, 908, 909, 910, 60, 911, 62, 934, 560, 561, 562, 563, 564, 566, 567, 158, 159, 160, 161, 162, 163, 165, 166, 184, 185, 186, 187, 568, 569, 570, 571, 572, 573, 574, 575, 578, 580, 581, 582, 587, 588, 589, 590, 591, 594, 595, 596, 597, 598, 600, 601, 602, 603, 604, 605, 606, 607, 608, 609, 610, 611, 612, 613, 614, 615, 420, 421, 422, 616, 617, 618, 619, 620, 621, 622, 623, 624, 625, 626, 627, 628, 629, 630, 631, 632, 633, 634, 635, 636, 637, 638, 639, 640, 641, 642, 851, 852, 853, 854, 867, 868, 869, 870, 871, 950, 951, 952, 953, 954, 955, 956, 957, 555, 556, 557, 558, 559, 958, 959, 960, 961, 998, 999, 1000, 1001, 1002, 1003, 1011, 1012, 1013, 1014, 1015, 1016, 1017, 1034, 1035, 1036, 1037, 1038, 1027, 1028, 1029, 1030, 1031, 1032, 1033, 1018, 1019, 1020, 1021, 1022, 1023, 1024, 1025, 1026] (by decide +kernel) (by decide +kernel)
set_option maxRecDepth 20000 in
theorem gL_law_X5_digest : GoodIn wsL_law (wsV RL 192 RX5 yX5_digest wsX5_digest) := goodIn_app (goodIn_of _ (by decide +kernel)) ggL_law_X5_digest
set_option maxRecDepth 20000 in
theorem ggL_law_X7_digest : GoodIn wsL_law wsX7_digest := goodIn_r _ [994, 129, 995, 996, 997, 71, 740, 741, 544, 324, 494, 75, 348, 838, 839, 840, 5, 841, 765, 49, 131, 234, 247, 842, 547, 305, 233, 139, 140, 141, 70, 142, 143, 843, 210, 211, 212, 213, 181, 178, 182, 214, 177, 179, 215, 349, 350, 351, 74, 352, 353, 461, 462, 463, 464, 435, 445, 446, 447, 448, 449, 450, 451, 452, 453, 454, 455, 456, 457, 458, 459, 460, 92, 282, 283, 284, 285, 286, 287, 80, 761, 762, 763, 764, 325, 436, 797, 798, 799, 800, 801, 802, 803, 804, 661, 82, 939, 940, 941, 942, 704, 916, 917, 918, 919, 920, 69, 78, 201, 652, 654, 651, 658, 659, 81, 921, 400, 401, 402, 83, 85, 87, 922, 76, 77, 79, 12, 13, 59, 84, 7, 86, 647, 648, 649, 650, 202, 653, 655, 656, 657, 208, 660, 662, 663, 195, 196, 197, 198, 199, 200, 203, 204, 205, 206, 207, 209, 664, 665, 666, 667, 668, 669, 670, 497, 671, 672, 673, 674, 675, 676, 677, 678, 679, 520, 509, 510, 511, 680, 681, 682, 683, 684, 685, 686, 687, 688, 689, 690, 691, 692, 693, 694, 695, 696, 697, 698, 699, 133, 134, 859, 860, 861, 862, 876, 877, 878, 879, 880, 881, 882, 966, 967, 968, 969, 1004, 1005, 1006, 1007, 1008, 1009, 1010, 1039, 1040, 1041, 1042, 1043, 1044, 1045, 1046, 1047, 1048, 1049, 1050, 1051, 1052, 1053, 1054, 1055, 1056, 1057, 1058, 1059, 1060, 1061] (by decide +kernel) (by decide +kernel)
set_option maxRecDepth 20000 in
theorem gL_law_X7_digest : GoodIn wsL_law (wsV RL 196 RX7 yX7_digest wsX7_digest) := goodIn_app (goodIn_of _ (by decide +kernel)) ggL_law_X7_digest

