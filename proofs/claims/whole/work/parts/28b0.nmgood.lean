theorem zc_1 {big b : List Cond} {c : Cond} (ha : GoodIn big [c]) (hb : GoodIn big b) : GoodIn big (c :: b) := fun w h => (List.mem_cons.mp h).elim (fun e => ha w (List.mem_cons.mpr (Or.inl e))) (hb w)
set_option maxRecDepth 20000 in
theorem zz_X5_init_0 : GoodIn wsL_law [.code yX5_init cX5_init 1 none] := goodIn_r _ [10] (by decide +kernel) (by decide +kernel)
set_option maxRecDepth 20000 in
theorem zz_X5_init_1 : GoodIn wsL_law wsX5_init_r1 := goodIn_r _ [11, 12, 13, 14, 15, 16, 17, 18, 19, 20, 21, 22, 23, 24, 25, 26, 27, 28, 29, 30, 31, 32, 33, 34] (by decide +kernel) (by decide +kernel)
set_option maxRecDepth 20000 in
theorem zz_X5_init_2 : GoodIn wsL_law wsX5_init_r2 := goodIn_r _ [35, 36, 37, 38, 39, 40, 41, 42, 43, 44, 45, 46, 47, 48, 49, 50, 51, 52, 53, 54, 7, 55, 56, 57] (by decide +kernel) (by decide +kernel)
set_option maxRecDepth 20000 in
theorem zz_X5_init_3 : GoodIn wsL_law wsX5_init_r3 := goodIn_r _ [58, 59, 60, 61, 62, 63] (by decide +kernel) (by decide +kernel)
set_option maxRecDepth 20000 in
theorem zz_X5_init_4 : GoodIn wsL_law wsX10 := goodIn_r _ [1011, 1012, 1013, 1014, 1015, 1016, 1017] (by decide +kernel) (by decide +kernel)
set_option maxRecDepth 20000 in
theorem zz_X5_init_5 : GoodIn wsL_law wsX50 := goodIn_r _ [998, 999, 1000, 1001, 1002, 1003] (by decide +kernel) (by decide +kernel)
set_option maxRecDepth 20000 in
theorem zz_X5_init_6 : GoodIn wsL_law wsX40 := goodIn_r _ [1018, 1019, 1020] (by decide +kernel) (by decide +kernel)
set_option maxRecDepth 20000 in
theorem zz_X5_init_7 : GoodIn wsL_law wsX30 := goodIn_r _ [1021, 1022, 1023, 1024, 1025, 1026] (by decide +kernel) (by decide +kernel)
set_option maxRecDepth 20000 in
theorem zz_X5_init_8 : GoodIn wsL_law wsX00 := goodIn_r _ [1027, 1028, 1029, 1030, 1031, 1032, 1033] (by decide +kernel) (by decide +kernel)
set_option maxRecDepth 20000 in
theorem zz_X5_init_9 : GoodIn wsL_law wsX20 := goodIn_r _ [1034, 1035, 1036, 1037, 1038] (by decide +kernel) (by decide +kernel)
set_option maxRecDepth 20000 in
theorem ggL_law_X5_init : GoodIn wsL_law wsX5_init := (zc_1 zz_X5_init_0 (goodIn_app (goodIn_app (goodIn_app (goodIn_app (goodIn_app (goodIn_app (goodIn_app zz_X5_init_1 (goodIn_app zz_X5_init_2 zz_X5_init_3)) zz_X5_init_4) zz_X5_init_5) zz_X5_init_6) zz_X5_init_7) zz_X5_init_8) zz_X5_init_9))
set_option maxRecDepth 20000 in
theorem gL_law_X5_init : GoodIn wsL_law (wsX5_init) := ggL_law_X5_init
set_option maxRecDepth 20000 in
theorem zz_X7_init_0 : GoodIn wsL_law [.code yX7_init cX7_init 1 none] := goodIn_r _ [66] (by decide +kernel) (by decide +kernel)
set_option maxRecDepth 20000 in
theorem zz_X7_init_1 : GoodIn wsL_law wsX7_init_r1 := goodIn_r _ [67, 12, 13, 68, 69, 70, 71, 72, 73, 74, 75, 76, 77, 78, 79, 80, 59, 81, 49, 82, 83, 84, 7, 85] (by decide +kernel) (by decide +kernel)
set_option maxRecDepth 20000 in
theorem zz_X7_init_2 : GoodIn wsL_law wsX7_init_r2 := goodIn_r _ [86, 87, 88, 89, 90, 91, 92, 93, 94, 95, 96, 97, 98, 99, 100, 101, 102] (by decide +kernel) (by decide +kernel)
set_option maxRecDepth 20000 in
theorem zz_X7_init_3 : GoodIn wsL_law wsX60 := goodIn_r _ [1039, 1040, 1041, 1042, 1043, 1044, 1045, 1046, 1047, 1048, 1049, 1050, 1051, 1052, 1053, 1054, 1055, 1056, 1057, 1058] (by decide +kernel) (by decide +kernel)
set_option maxRecDepth 20000 in
theorem zz_X7_init_4 : GoodIn wsL_law wsX70 := goodIn_r _ [1004, 1005, 1006, 1007, 1008, 1009, 1010] (by decide +kernel) (by decide +kernel)
set_option maxRecDepth 20000 in
theorem zz_X7_init_5 : GoodIn wsL_law wsJx4a65c0 := goodIn_r _ [1059, 1060, 1061] (by decide +kernel) (by decide +kernel)
set_option maxRecDepth 20000 in
theorem ggL_law_X7_init : GoodIn wsL_law wsX7_init := (zc_1 zz_X7_init_0 (goodIn_app (goodIn_app (goodIn_app (goodIn_app zz_X7_init_1 zz_X7_init_2) zz_X7_init_3) zz_X7_init_4) zz_X7_init_5))
set_option maxRecDepth 20000 in
theorem gL_law_X7_init : GoodIn wsL_law (wsX7_init) := ggL_law_X7_init
set_option maxRecDepth 20000 in
theorem ggL_law_L_moon : GoodIn wsL_law wsL_moon := goodIn_ca (goodIn_r _ [106, 107, 108, 109, 110, 2, 111, 112, 113, 17, 114, 115, 116, 117, 118, 119, 120, 121, 122, 24, 123, 124, 998, 999, 1000, 1001, 1002, 1003, 1011, 1012, 1013, 1014, 1015, 1016, 1017, 1018, 1019, 1020] (by decide +kernel) (by decide +kernel)) (goodIn_sub (fun _ h => List.mem_append_left _ (List.mem_append_left _ (List.mem_append_right _ h))) (by decide +kernel))
set_option maxRecDepth 20000 in
theorem gL_law_L_moon : GoodIn wsL_law (va_wsS RL 95 yL_moon wsL_moon) := goodIn_app (goodIn_of _ (by decide +kernel)) ggL_law_L_moon
set_option maxRecDepth 20000 in
theorem ggL_law_X7_moon : GoodIn wsL_law wsX7_moon := goodIn_r _ [128, 129, 71, 130, 131, 132, 133, 5, 134, 135, 136, 137, 138, 139, 140, 141, 70, 142, 143, 1004, 1005, 1006, 1007, 1008, 1009, 1010, 1039, 1040, 1041, 1042, 1043, 1044, 1045, 1046, 1047, 1048, 1049, 1050, 1051, 1052, 1053, 1054, 1055, 1056, 1057, 1058] (by decide +kernel) (by decide +kernel)
set_option maxRecDepth 20000 in
theorem gL_law_X7_moon : GoodIn wsL_law (wsV RL 100 RX7 yX7_moon wsX7_moon) := goodIn_app (goodIn_of _ (by decide +kernel)) ggL_law_X7_moon
set_option maxRecDepth 20000 in
theorem ggL_law_X7_thrown : GoodIn wsL_law wsX7_thrown := goodIn_r _ [147, 129, 1004, 1005, 1006, 1007, 1008, 1009, 1010] (by decide +kernel) (by decide +kernel)
set_option maxRecDepth 20000 in
theorem gL_law_X7_thrown : GoodIn wsL_law (wsV RL 101 RX7 yX7_thrown wsX7_thrown) := goodIn_app (goodIn_of _ (by decide +kernel)) ggL_law_X7_thrown
set_option maxRecDepth 20000 in
theorem zz_L_surge_0 : GoodIn wsL_law [.codeWith yL_surge cL_surge 4 (some .int) [(0, 8, 11, 13)]] := goodIn_r _ [150] (by decide +kernel) (by decide +kernel)
set_option maxRecDepth 20000 in
theorem zz_L_surge_1 : GoodIn wsL_law wsL_surge_r1 := goodIn_r _ [107, 151, 152, 153, 2, 154, 112, 113, 17, 114, 155, 156, 116, 117, 118, 119, 157, 158, 159, 24, 160, 161, 162, 163] (by decide +kernel) (by decide +kernel)
set_option maxRecDepth 20000 in
theorem zz_L_surge_2 : GoodIn wsL_law wsL_surge_r2 := goodIn_r _ [164, 165, 166, 167, 168, 169, 170, 171, 172, 121, 122, 123, 124, 173, 174, 175, 176, 177, 178, 179, 180, 181, 182, 183] (by decide +kernel) (by decide +kernel)
set_option maxRecDepth 20000 in
theorem zz_L_surge_3 : GoodIn wsL_law wsL_surge_r3 := goodIn_r _ [184, 185, 186, 187] (by decide +kernel) (by decide +kernel)
set_option maxRecDepth 20000 in
theorem zz_L_surge_4 : GoodIn wsL_law wsX50 := goodIn_r _ [998, 999, 1000, 1001, 1002, 1003] (by decide +kernel) (by decide +kernel)
set_option maxRecDepth 20000 in
theorem zz_L_surge_5 : GoodIn wsL_law wsX10 := goodIn_r _ [1011, 1012, 1013, 1014, 1015, 1016, 1017] (by decide +kernel) (by decide +kernel)
set_option maxRecDepth 20000 in
theorem zz_L_surge_6 : GoodIn wsL_law wsX40 := goodIn_r _ [1018, 1019, 1020] (by decide +kernel) (by decide +kernel)
set_option maxRecDepth 20000 in
theorem ggL_law_L_surge : GoodIn wsL_law wsL_surge := goodIn_ca ((zc_1 zz_L_surge_0 (goodIn_app (goodIn_app (goodIn_app (goodIn_app zz_L_surge_1 (goodIn_app zz_L_surge_2 zz_L_surge_3)) zz_L_surge_4) zz_L_surge_5) zz_L_surge_6))) (goodIn_sub (fun _ h => List.mem_append_left _ (List.mem_append_left _ (List.mem_append_right _ h))) (by decide +kernel))
set_option maxRecDepth 20000 in
theorem gL_law_L_surge : GoodIn wsL_law (va_wsS RL 104 yL_surge wsL_surge) := goodIn_app (goodIn_of _ (by decide +kernel)) ggL_law_L_surge
set_option maxRecDepth 20000 in
theorem zz_X7_surge_0 : GoodIn wsL_law [.code yX7_surge cX7_surge 2 (some .double)] := goodIn_r _ [191] (by decide +kernel) (by decide +kernel)
set_option maxRecDepth 20000 in
theorem zz_X7_surge_1 : GoodIn wsL_law wsX7_surge_r1 := goodIn_r _ [129, 71, 192, 193, 131, 132, 133, 5, 134, 135, 136, 137, 138, 194, 195, 196, 70, 197, 198, 199, 200, 201, 202, 203] (by decide +kernel) (by decide +kernel)
set_option maxRecDepth 20000 in
theorem zz_X7_surge_2 : GoodIn wsL_law wsX7_surge_r2 := goodIn_r _ [204, 205, 206, 207, 208, 209, 210, 211, 212, 213, 182, 179, 183, 214, 178, 180, 215, 140, 141, 142, 143] (by decide +kernel) (by decide +kernel)
set_option maxRecDepth 20000 in
theorem zz_X7_surge_3 : GoodIn wsL_law wsX70 := goodIn_r _ [1004, 1005, 1006, 1007, 1008, 1009, 1010] (by decide +kernel) (by decide +kernel)
set_option maxRecDepth 20000 in
theorem zz_X7_surge_4 : GoodIn wsL_law wsX60 := goodIn_r _ [1039, 1040, 1041, 1042, 1043, 1044, 1045, 1046, 1047, 1048, 1049, 1050, 1051, 1052, 1053, 1054, 1055, 1056, 1057, 1058] (by decide +kernel) (by decide +kernel)
set_option maxRecDepth 20000 in
theorem ggL_law_X7_surge : GoodIn wsL_law wsX7_surge := (zc_1 zz_X7_surge_0 (goodIn_app (goodIn_app (goodIn_app zz_X7_surge_1 zz_X7_surge_2) zz_X7_surge_3) zz_X7_surge_4))
set_option maxRecDepth 20000 in
theorem gL_law_X7_surge : GoodIn wsL_law (wsV RL 107 RX7 yX7_surge wsX7_surge) := goodIn_app (goodIn_of _ (by decide +kernel)) ggL_law_X7_surge
set_option maxRecDepth 20000 in
theorem ggL_law_L_gates : GoodIn wsL_law wsL_gates := goodIn_ca (goodIn_ca (goodIn_r _ [218, 107, 219, 220, 221, 222, 2, 223, 112, 113, 224, 225, 226, 17, 227, 228, 117, 118, 119, 998, 999, 1000, 1001, 1002, 1003, 1011, 1012, 1013, 1014, 1015, 1016, 1017, 1021, 1022, 1023, 1024, 1025, 1026] (by decide +kernel) (by decide +kernel)) (goodIn_sub (fun _ h => List.mem_append_left _ (List.mem_append_left _ (List.mem_append_right _ h))) (by decide +kernel))) (goodIn_sub (fun _ h => List.mem_append_left _ (List.mem_append_right _ h)) (by decide +kernel))
set_option maxRecDepth 20000 in
theorem gL_law_L_gates : GoodIn wsL_law (va_wsS RL 108 yL_gates wsL_gates) := goodIn_app (goodIn_of _ (by decide +kernel)) ggL_law_L_gates
set_option maxRecDepth 20000 in
theorem ggL_law_X7_gates : GoodIn wsL_law wsX7_gates := goodIn_r _ [232, 129, 233, 71, 234, 132, 133, 5, 134, 135, 136, 137, 138, 1004, 1005, 1006, 1007, 1008, 1009, 1010, 1039, 1040, 1041, 1042, 1043, 1044, 1045, 1046, 1047, 1048, 1049, 1050, 1051, 1052, 1053, 1054, 1055, 1056, 1057, 1058] (by decide +kernel) (by decide +kernel)
set_option maxRecDepth 20000 in
theorem gL_law_X7_gates : GoodIn wsL_law (wsV RL 110 RX7 yX7_gates wsX7_gates) := goodIn_app (goodIn_of _ (by decide +kernel)) ggL_law_X7_gates
set_option maxRecDepth 20000 in
theorem ggL_law_L_sluice : GoodIn wsL_law wsL_sluice := goodIn_ca (goodIn_r _ [237, 107, 238, 239, 240, 2, 241, 112, 113, 17, 227, 242, 117, 118, 119, 998, 999, 1000, 1001, 1002, 1003, 1011, 1012, 1013, 1014, 1015, 1016, 1017, 1021, 1022, 1023, 1024, 1025, 1026] (by decide +kernel) (by decide +kernel)) (goodIn_sub (fun _ h => List.mem_append_left _ (List.mem_append_left _ (List.mem_append_right _ h))) (by decide +kernel))
set_option maxRecDepth 20000 in
theorem gL_law_L_sluice : GoodIn wsL_law (va_wsS RL 111 yL_sluice wsL_sluice) := goodIn_app (goodIn_of _ (by decide +kernel)) ggL_law_L_sluice
set_option maxRecDepth 20000 in
theorem ggL_law_X7_sluice : GoodIn wsL_law wsX7_sluice := goodIn_r _ [246, 129, 71, 247, 132, 133, 5, 134, 135, 136, 137, 138, 1004, 1005, 1006, 1007, 1008, 1009, 1010, 1039, 1040, 1041, 1042, 1043, 1044, 1045, 1046, 1047, 1048, 1049, 1050, 1051, 1052, 1053, 1054, 1055, 1056, 1057, 1058] (by decide +kernel) (by decide +kernel)
set_option maxRecDepth 20000 in
theorem gL_law_X7_sluice : GoodIn wsL_law (wsV RL 113 RX7 yX7_sluice wsX7_sluice) := goodIn_app (goodIn_of _ (by decide +kernel)) ggL_law_X7_sluice
set_option maxRecDepth 20000 in
theorem ggL_law_X5_scour : GoodIn wsL_law wsX5_scour := goodIn_r _ [251, 17, 227, 252, 998, 999, 1000, 1001, 1002, 1003, 1011, 1012, 1013, 1014, 1015, 1016, 1017, 1021, 1022, 1023, 1024, 1025, 1026] (by decide +kernel) (by decide +kernel)
set_option maxRecDepth 20000 in
theorem gL_law_X5_scour : GoodIn wsL_law (wsV RL 114 RX5 yX5_scour wsX5_scour) := goodIn_app (goodIn_of _ (by decide +kernel)) ggL_law_X5_scour
set_option maxRecDepth 20000 in
theorem ggL_law_X7_scour : GoodIn wsL_law wsX7_scour := goodIn_r _ [256, 129, 71, 257, 1004, 1005, 1006, 1007, 1008, 1009, 1010, 1039, 1040, 1041, 1042, 1043, 1044, 1045, 1046, 1047, 1048, 1049, 1050, 1051, 1052, 1053, 1054, 1055, 1056, 1057, 1058] (by decide +kernel) (by decide +kernel)
set_option maxRecDepth 20000 in
theorem gL_law_X7_scour : GoodIn wsL_law (wsV RL 118 RX7 yX7_scour wsX7_scour) := goodIn_app (goodIn_of _ (by decide +kernel)) ggL_law_X7_scour
set_option maxRecDepth 20000 in
theorem ggL_law_L_hours : GoodIn wsL_law wsL_hours := goodIn_ca (goodIn_r _ [260, 107, 261, 262, 263, 2, 264, 112, 113, 17, 265, 266, 117, 118, 119, 267, 268, 269, 16, 270, 25, 38, 39, 271, 272, 273, 24, 274, 275, 998, 999, 1000, 1001, 1002, 1003, 1011, 1012, 1013, 1014, 1015, 1016, 1017, 1018, 1019, 1020] (by decide +kernel) (by decide +kernel)) (goodIn_sub (fun _ h => List.mem_append_left _ (List.mem_append_left _ (List.mem_append_right _ h))) (by decide +kernel))
set_option maxRecDepth 20000 in
theorem gL_law_L_hours : GoodIn wsL_law (va_wsS RL 119 yL_hours wsL_hours) := goodIn_app (goodIn_of _ (by decide +kernel)) ggL_law_L_hours
set_option maxRecDepth 20000 in
theorem ggL_law_X7_hours : GoodIn wsL_law wsX7_hours := goodIn_r _ [279, 129, 71, 280, 281, 132, 133, 5, 134, 135, 136, 137, 138, 282, 283, 284, 70, 285, 286, 287, 80, 1004, 1005, 1006, 1007, 1008, 1009, 1010, 1039, 1040, 1041, 1042, 1043, 1044, 1045, 1046, 1047, 1048, 1049, 1050, 1051, 1052, 1053, 1054, 1055, 1056, 1057, 1058] (by decide +kernel) (by decide +kernel)
set_option maxRecDepth 20000 in
theorem gL_law_X7_hours : GoodIn wsL_law (wsV RL 122 RX7 yX7_hours wsX7_hours) := goodIn_app (goodIn_of _ (by decide +kernel)) ggL_law_X7_hours
