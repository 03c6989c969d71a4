theorem dL_ofOwner_9 : decode cL_ofOwner 9 = .ok (.lastore, 1) := by decide +kernel
theorem dL_ofOwner_10 : decode cL_ofOwner 10 = .ok (.goto 7, 3) := by decide +kernel
theorem dL_ofOwner_13 : decode cL_ofOwner 13 = .ok (.astore 4, 2) := by decide +kernel
theorem dL_ofOwner_15 : decode cL_ofOwner 15 = .ok (.iconst 1, 1) := by decide +kernel
theorem dL_ofOwner_16 : decode cL_ofOwner 16 = .ok (.ireturn, 1) := by decide +kernel
theorem dL_ofOwner_17 : decode cL_ofOwner 17 = .ok (.iconst 0, 1) := by decide +kernel
theorem dL_ofOwner_18 : decode cL_ofOwner 18 = .ok (.ireturn, 1) := by decide +kernel
set_option maxRecDepth 20000 in
theorem ggL_wouldLevel_X5_wouldLevel : GoodIn wsL_wouldLevel wsX5_wouldLevel := goodIn_ca (goodIn_r _ [6, 7, 8, 9, 10, 11, 12, 13, 14, 5, 15, 16, 17, 18, 19, 20, 21, 22, 23, 24, 25, 26, 27, 28, 29, 30, 31, 32, 33, 34, 35, 36, 37, 38, 39, 40, 41, 42, 43, 44, 45, 46, 47, 48, 49, 50, 51, 52, 53, 54, 55, 56, 57, 58, 59, 60, 61, 62, 63, 64, 65, 66, 67, 68, 69, 70, 71, 72, 73, 74, 75, 76, 77, 78, 79, 80, 81, 82, 83, 84, 85, 86, 87, 88, 89, 90, 91, 92, 93, 94, 95, 96, 97, 98, 99, 100, 101, 102, 103, 104, 105, 106, 107, 108, 109, 110, 111, 112, 113, 114, 115, 116, 117, 118, 119, 120, 121, 122, 123, 124, 125, 126, 127, 128, 129, 130, 131, 132, 133, 134, 135, 136, 137, 138, 139, 140, 141, 142, 143, 144, 145, 146, 147, 148, 149, 150, 151, 152, 153, 154, 155, 156, 157, 158, 159, 160, 161, 162, 163, 164, 165, 166, 167, 168, 169, 170, 171, 172, 173, 174, 175, 176, 177, 178, 179, 180, 181, 182, 183, 184, 185, 186, 187, 188, 189, 190, 191, 192, 193, 194, 195, 196, 197, 198, 199, 200, 201, 202, 203, 204, 205, 206, 207, 208, 209, 210, 211, 212, 213, 214, 215, 216, 217, 218, 219, 220, 221, 222, 223, 224, 225, 226, 227, 228, 229, 230] (by decide +kernel) (by decide +kernel)) (goodIn_sub (fun _ h => List.mem_cons_of_mem _ (List.mem_append_right _ h)) (by decide +kernel))
set_option maxRecDepth 20000 in
theorem gL_wouldLevel_X5_wouldLevel : GoodIn wsL_wouldLevel (wsV RL 82 RX5 yX5_wouldLevel wsX5_wouldLevel) := goodIn_app (goodIn_of _ (by decide +kernel)) ggL_wouldLevel_X5_wouldLevel
theorem dL_wouldLevel_0 : decode cL_wouldLevel 0 = .ok (.aload_n 2, 1) := by decide +kernel
theorem dL_wouldLevel_1 : decode cL_wouldLevel 1 = .ok (.iconst 0, 1) := by decide +kernel
theorem dL_wouldLevel_2 : decode cL_wouldLevel 2 = .ok (.aload_n 0, 1) := by decide +kernel
theorem dL_wouldLevel_3 : decode cL_wouldLevel 3 = .ok (.iload_n 1, 1) := by decide +kernel
theorem dL_wouldLevel_4 : decode cL_wouldLevel 4 = .ok (.invokevirtual 82, 3) := by decide +kernel
theorem dL_wouldLevel_7 : decode cL_wouldLevel 7 = .ok (.dastore, 1) := by decide +kernel
theorem dL_wouldLevel_8 : decode cL_wouldLevel 8 = .ok (.goto 6, 3) := by decide +kernel
theorem dL_wouldLevel_11 : decode cL_wouldLevel 11 = .ok (.astore_n 3, 1) := by decide +kernel
theorem dL_wouldLevel_12 : decode cL_wouldLevel 12 = .ok (.iconst 1, 1) := by decide +kernel
theorem dL_wouldLevel_13 : decode cL_wouldLevel 13 = .ok (.ireturn, 1) := by decide +kernel
theorem dL_wouldLevel_14 : decode cL_wouldLevel 14 = .ok (.iconst 0, 1) := by decide +kernel
theorem dL_wouldLevel_15 : decode cL_wouldLevel 15 = .ok (.ireturn, 1) := by decide +kernel
set_option maxRecDepth 20000 in
theorem ggL_wouldDone_X5_wouldDone : GoodIn wsL_wouldDone wsX5_wouldDone := goodIn_ca (goodIn_r _ [6, 7, 8, 9, 10, 11, 12, 13, 14, 15, 16, 17, 18, 19, 5, 20, 21, 22, 23, 24, 25, 26, 27, 28, 29, 30, 31, 32, 33, 34, 35, 36, 37, 38, 39, 40, 41, 42, 43, 44, 45, 46, 47, 48, 49, 50, 51, 52, 53, 54, 55, 56, 57, 58, 59, 60, 61, 62, 63, 64, 65, 66, 67, 68, 69, 70, 71, 72, 73, 74, 75, 76, 77, 78, 79, 80, 81, 82, 83, 84, 85, 86, 87, 88, 89, 90, 91, 92, 93, 94, 95, 96, 97, 98, 99, 100, 101, 102, 103, 104, 105, 106, 107, 108, 109, 110, 111, 112, 113, 114, 115, 116, 117, 118, 119, 120, 121, 122, 123, 124, 125, 126, 127, 128, 129, 130, 131, 132, 133, 134, 135, 136, 137, 138, 139, 140, 141, 142, 143, 144, 145, 146, 147, 148, 149, 150, 151, 152, 153, 154, 155, 156, 157, 158, 159, 160, 161, 162, 163, 164, 165, 166, 167, 168, 169, 170, 171, 172, 173, 174, 175, 176, 177, 178, 179, 180, 181, 182, 183, 184, 185, 186, 187, 188, 189, 190, 191, 192, 193, 194, 195, 196, 197, 198, 199, 200, 201, 202, 203, 204, 205, 206, 207, 208, 209, 210, 211, 212, 213, 214, 215, 216, 217, 218, 219, 220, 221, 222, 223, 224, 225, 226, 227, 228] (by decide +kernel) (by decide +kernel)) (goodIn_sub (fun _ h => List.mem_cons_of_mem _ (List.mem_append_right _ h)) (by decide +kernel))
set_option maxRecDepth 20000 in
theorem gL_wouldDone_X5_wouldDone : GoodIn wsL_wouldDone (wsV RL 85 RX5 yX5_wouldDone wsX5_wouldDone) := goodIn_app (goodIn_of _ (by decide +kernel)) ggL_wouldDone_X5_wouldDone
theorem dL_wouldDone_0 : decode cL_wouldDone 0 = .ok (.aload_n 2, 1) := by decide +kernel
theorem dL_wouldDone_1 : decode cL_wouldDone 1 = .ok (.iconst 0, 1) := by decide +kernel
theorem dL_wouldDone_2 : decode cL_wouldDone 2 = .ok (.aload_n 0, 1) := by decide +kernel
theorem dL_wouldDone_3 : decode cL_wouldDone 3 = .ok (.iload_n 1, 1) := by decide +kernel
theorem dL_wouldDone_4 : decode cL_wouldDone 4 = .ok (.invokevirtual 85, 3) := by decide +kernel
theorem dL_wouldDone_7 : decode cL_wouldDone 7 = .ok (.i2l, 1) := by decide +kernel
theorem dL_wouldDone_8 : decode cL_wouldDone 8 = .ok (.lastore, 1) := by decide +kernel
theorem dL_wouldDone_9 : decode cL_wouldDone 9 = .ok (.goto 6, 3) := by decide +kernel
theorem dL_wouldDone_12 : decode cL_wouldDone 12 = .ok (.astore_n 3, 1) := by decide +kernel
theorem dL_wouldDone_13 : decode cL_wouldDone 13 = .ok (.iconst 1, 1) := by decide +kernel
theorem dL_wouldDone_14 : decode cL_wouldDone 14 = .ok (.ireturn, 1) := by decide +kernel
theorem dL_wouldDone_15 : decode cL_wouldDone 15 = .ok (.iconst 0, 1) := by decide +kernel
theorem dL_wouldDone_16 : decode cL_wouldDone 16 = .ok (.ireturn, 1) := by decide +kernel
set_option maxRecDepth 20000 in
theorem ggL_best_X5_best : GoodIn wsL_best wsX5_best := goodIn_ca (goodIn_r _ [6, 7, 8, 9, 10, 5, 11, 12, 13, 14, 15, 16, 17, 18, 19, 20, 21, 22, 23, 24, 25, 26, 27, 28, 29, 30, 31, 32, 33, 34, 35, 36, 37, 38, 39, 40, 41, 42, 43, 44, 45, 46, 47, 48, 49, 50, 51, 52, 53, 54, 55, 56, 57, 58, 59, 60, 61, 62, 63, 64, 65, 66, 67, 68, 69, 70, 71, 72, 73, 74, 75, 76, 77, 78, 79, 80, 81, 82, 83, 84, 85, 86, 87, 88, 89, 90, 91, 92, 93, 94, 95, 96, 97, 98, 99, 100, 101, 102, 103, 104, 105, 106, 107, 108, 109, 110, 111, 112, 113, 114, 115, 116, 117, 118, 119, 120, 121, 122, 123, 124, 125, 126, 127, 128, 129, 130, 131, 132, 133, 134, 135, 136, 137, 138, 139, 140, 141, 142, 143, 144, 145, 146, 147, 148, 149, 150, 151, 152, 153, 154, 155, 156, 157, 158, 159, 160, 161, 162, 163, 164, 165, 166, 167, 168, 169, 170, 171, 172, 173, 174, 175, 176, 177, 178, 179, 180, 181, 182, 183, 184, 185, 186, 187, 188, 189, 190, 191, 192, 193, 194, 195, 196, 197, 198, 199, 200, 201, 202, 203, 204, 205, 206, 207, 208, 209, 210, 211, 212, 213, 214, 215, 216, 217, 218, 219, 220, 221, 222, 223, 224, 225, 226, 227, 228, 229, 230, 231, 232, 233, 234, 235, 236, 237, 238, 239, 240, 241, 242, 243] (by decide +kernel) (by decide +kernel)) (goodIn_sub (fun _ h => List.mem_cons_of_mem _ (List.mem_append_right _ h)) (by decide +kernel))
set_option maxRecDepth 20000 in
theorem gL_best_X5_best : GoodIn wsL_best (wsV RL 88 RX5 yX5_best wsX5_best) := goodIn_app (goodIn_of _ (by decide +kernel)) ggL_best_X5_best
theorem dL_best_0 : decode cL_best 0 = .ok (.aload_n 2, 1) := by decide +kernel
theorem dL_best_1 : decode cL_best 1 = .ok (.iconst 0, 1) := by decide +kernel
theorem dL_best_2 : decode cL_best 2 = .ok (.aload_n 0, 1) := by decide +kernel
theorem dL_best_3 : decode cL_best 3 = .ok (.iload_n 1, 1) := by decide +kernel
theorem dL_best_4 : decode cL_best 4 = .ok (.invokevirtual 88, 3) := by decide +kernel
theorem dL_best_7 : decode cL_best 7 = .ok (.i2l, 1) := by decide +kernel
theorem dL_best_8 : decode cL_best 8 = .ok (.lastore, 1) := by decide +kernel
theorem dL_best_9 : decode cL_best 9 = .ok (.goto 6, 3) := by decide +kernel
theorem dL_best_12 : decode cL_best 12 = .ok (.astore_n 3, 1) := by decide +kernel
theorem dL_best_13 : decode cL_best 13 = .ok (.iconst 1, 1) := by decide +kernel
theorem dL_best_14 : decode cL_best 14 = .ok (.ireturn, 1) := by decide +kernel
theorem dL_best_15 : decode cL_best 15 = .ok (.iconst 0, 1) := by decide +kernel
theorem dL_best_16 : decode cL_best 16 = .ok (.ireturn, 1) := by decide +kernel
set_option maxRecDepth 20000 in
theorem ggL_law_X5_init : GoodIn wsL_law wsX5_init := goodIn_r _ [10, 11, 12, 13, 14, 15, 16, 17, 18, 19, 20, 21, 22, 23, 24, 25, 26, 27, 28, 29, 30, 31, 32, 33, 34, 35, 36, 37, 38, 39, 40, 41, 42, 43, 44, 45, 46, 47, 48, 49, 50, 51, 52, 53, 54, 7, 55, 56, 57, 58, 59, 60, 61, 62, 63, 1011, 1012, 1013, 1014, 1015, 1016, 1017, 998, 999, 1000, 1001, 1002, 1003, 1018, 1019, 1020, 1021, 1022, 1023, 1024, 1025, 1026, 1027, 1028, 1029, 1030, 1031, 1032, 1033, 1034, 1035, 1036, 1037, 1038] (by decide +kernel) (by decide +kernel)
set_option maxRecDepth 20000 in
theorem gL_law_X5_init : GoodIn wsL_law (wsX5_init) := ggL_law_X5_init
set_option maxRecDepth 20000 in
theorem ggL_law_X7_init : GoodIn wsL_law wsX7_init := goodIn_r _ [66, 67, 12, 13, 68, 69, 70, 71, 72, 73, 74, 75, 76, 77, 78, 79, 80, 59, 81, 49, 82, 83, 84, 7, 85, 86, 87, 88, 89, 90, 91, 92, 93, 94, 95, 96, 97, 98, 99, 100, 101, 102, 1039, 1040, 1041, 1042, 1043, 1044, 1045, 1046, 1047, 1048, 1049, 1050, 1051, 1052, 1053, 1054, 1055, 1056, 1057, 1058, 1004, 1005, 1006, 1007, 1008, 1009, 1010, 1059, 1060, 1061] (by decide +kernel) (by decide +kernel)
set_option maxRecDepth 20000 in
theorem gL_law_X7_init : GoodIn wsL_law (wsX7_init) := ggL_law_X7_init
set_option maxRecDepth 20000 in
theorem ggL_law_L_moon : GoodIn wsL_law wsL_moon := goodIn_ca (goodIn_r _ [106, 107, 108, 109, 110, 2, 111, 112, 113, 17, 114, 115, 116, 117, 118, 119, 120, 121, 122, 24, 123, 124, 998, 999, 1000, 1001, 1002, 1003, 1011, 1012, 1013, 1014, 1015, 1016, 1017, 1018, 1019, 1020] (by decide +kernel) (by decide +kernel)) (goodIn_sub (fun _ h => List.mem_append_left _ (List.mem_append_left _ (List.mem_append_right _ h))) (by decide +kernel))
set_option maxRecDepth 20000 in
theorem gL_law_L_moon : GoodIn wsL_law (va_wsS RL 95 yL_moon wsL_moon) := goodIn_app (goodIn_of _ (by decide +kernel)) ggL_law_L_moon
set_option maxRecDepth 20000 in
theorem ggL_law_X7_moon : GoodIn wsL_law wsX7_moon := goodIn_r _ [128, 129, 71, 130, 131, 132, 133, 5, 134, 135, 136, 137, 138, 139, 140, 141, 70, 142, 143, 1004, 1005, 1006, 1007, 1008, 1009, 1010, 1039, 1040, 1041, 1042, 1043, 1044, 1045, 1046, 1047, 1048, 1049, 1050, 1051, 1052, 1053, 1054, 1055, 1056, 1057, 1058] (by decide +kernel) (by decide +kernel)
set_option maxRecDepth 20000 in
theorem gL_law_X7_moon : GoodIn wsL_law (wsV RL 100 RX7 yX7_moon wsX7_moon) := goodIn_app (goodIn_of _ (by decide +kernel)) ggL_law_X7_moon
set_option maxRecDepth 20000 in
theorem ggL_law_X7_thrown : GoodIn wsL_law wsX7_thrown := goodIn_r _ [147, 129, 1004, 1005, 1006, 1007, 1008, 1009, 1010] (by decide +kernel) (by decide +kernel)
set_option maxRecDepth 20000 in
theorem gL_law_X7_thrown : GoodIn wsL_law (wsV RL 101 RX7 yX7_thrown wsX7_thrown) := goodIn_app (goodIn_of _ (by decide +kernel)) ggL_law_X7_thrown
set_option maxRecDepth 20000 in
theorem ggL_law_L_surge : GoodIn wsL_law wsL_surge := goodIn_ca (goodIn_r _ [150, 107, 151, 152, 153, 2, 154, 112, 113, 17, 114, 155, 156, 116, 117, 118, 119, 157, 158, 159, 24, 160, 161, 162, 163, 164, 165, 166, 167, 168, 169, 170, 171, 172, 173, 174, 175, 176, 177, 178, 179, 180, 181, 182, 183, 121, 122, 123, 124, 184, 185, 186, 187, 998, 999, 1000, 1001, 1002, 1003, 1011, 1012, 1013, 1014, 1015, 1016, 1017, 1018, 1019, 1020] (by decide +kernel) (by decide +kernel)) (goodIn_sub (fun _ h => List.mem_append_left _ (List.mem_append_left _ (List.mem_append_right _ h))) (by decide +kernel))
set_option maxRecDepth 20000 in
theorem gL_law_L_surge : GoodIn wsL_law (va_wsS RL 104 yL_surge wsL_surge) := goodIn_app (goodIn_of _ (by decide +kernel)) ggL_law_L_surge
set_option maxRecDepth 20000 in
theorem ggL_law_X7_surge : GoodIn wsL_law wsX7_surge := goodIn_r _ [191, 129, 71, 192, 193, 131, 132, 133, 5, 134, 135, 136, 137, 138, 194, 195, 196, 70, 197, 198, 199, 200, 201, 202, 203, 204, 205, 206, 207, 208, 209, 210, 211, 212, 213, 181, 178, 182, 214, 177, 179, 215, 140, 141, 142, 143, 1004, 1005, 1006, 1007, 1008, 1009, 1010, 1039, 1040, 1041, 1042, 1043, 1044, 1045, 1046, 1047, 1048, 1049, 1050, 1051, 1052, 1053, 1054, 1055, 1056, 1057, 1058] (by decide +kernel) (by decide +kernel)
set_option maxRecDepth 20000 in
theorem gL_law_X7_surge : GoodIn wsL_law (wsV RL 107 RX7 yX7_surge wsX7_surge) := goodIn_app (goodIn_of _ (by decide +kernel)) ggL_law_X7_surge
set_option maxRecDepth 20000 in
theorem ggL_law_L_gates : GoodIn wsL_law wsL_gates := goodIn_ca (goodIn_ca (goodIn_r _ [218, 107, 219, 220, 221, 222, 2, 223, 112, 113, 224, 225, 226, 17, 227, 228, 117, 118, 119, 998, 999, 1000, 1001, 1002, 1003, 1011, 1012, 1013, 1014, 1015, 1016, 1017, 1021, 1022, 1023, 1024, 1025, 1026] (by decide +kernel) (by decide +kernel)) (goodIn_sub (fun _ h => List.mem_append_left _ (List.mem_append_left _ (List.mem_append_right _ h))) (by decide +kernel))) (goodIn_sub (fun _ h => List.mem_append_left _ (List.mem_append_right _ h)) (by decide +kernel))
set_option maxRecDepth 20000 in
theorem gL_law_L_gates : GoodIn wsL_law (va_wsS RL 108 yL_gates wsL_gates) := goodIn_app (goodIn_of _ (by decide +kernel)) ggL_law_L_gates
set_option maxRecDepth 20000 in
theorem ggL_law_X7_gates : GoodIn wsL_law wsX7_gates := goodIn_r _ [232, 129, 233, 71, 234, 132, 133, 5, 134, 135, 136, 137, 138, 1004, 1005, 1006, 1007, 1008, 1009, 1010, 1039, 1040, 1041, 1042, 1043, 1044, 1045, 1046, 1047, 1048, 1049, 1050, 1051, 1052, 1053, 1054, 1055, 1056, 1057, 1058] (by decide +kernel) (by decide +kernel)
set_option maxRecDepth 20000 in
theorem gL_law_X7_gates : GoodIn wsL_law (wsV RL 110 RX7 yX7_gates wsX7_gates) := goodIn_app (goodIn_of _ (by decide +kernel)) ggL_law_X7_gates
set_option maxRecDepth 20000 in
theorem ggL_law_L_sluice : GoodIn wsL_law wsL_sluice := goodIn_ca (goodIn_r _ [237, 107, 238, 239, 240, 2, 241, 112, 113, 17, 227, 242, 117, 118, 119, 998, 999, 1000, 1001, 1002, 1003, 1011, 1012, 1013, 1014, 1015, 1016, 1017, 1021, 1022, 1023, 1024, 1025, 1026] (by decide +kernel) (by decide +kernel)) (goodIn_sub (fun _ h => List.mem_append_left _ (List.mem_append_left _ (List.mem_append_right _ h))) (by decide +kernel))
set_option maxRecDepth 20000 in
theorem gL_law_L_sluice : GoodIn wsL_law (va_wsS RL 111 yL_sluice wsL_sluice) := goodIn_app (goodIn_of _ (by decide +kernel)) ggL_law_L_sluice
set_option maxRecDepth 20000 in
theorem ggL_law_X7_sluice : GoodIn wsL_law wsX7_sluice := goodIn_r _ [246, 129, 71, 247, 132, 133, 5, 134, 135, 136, 137, 138, 1004, 1005, 1006, 1007, 1008, 1009, 1010, 1039, 1040, 1041, 1042, 1043, 1044, 1045, 1046, 1047, 1048, 1049, 1050, 1051, 1052, 1053, 1054, 1055, 1056, 1057, 1058] (by decide +kernel) (by decide +kernel)
set_option maxRecDepth 20000 in
theorem gL_law_X7_sluice : GoodIn wsL_law (wsV RL 113 RX7 yX7_sluice wsX7_sluice) := goodIn_app (goodIn_of _ (by decide +kernel)) ggL_law_X7_sluice
set_option maxRecDepth 20000 in
theorem ggL_law_X5_scour : GoodIn wsL_law wsX5_scour := goodIn_r _ [251, 17, 227, 252, 998, 999, 1000, 1001, 1002, 1003, 1011, 1012, 1013, 1014, 1015, 1016, 1017, 1021, 1022, 1023, 1024, 1025, 1026] (by decide +kernel) (by decide +kernel)
set_option maxRecDepth 20000 in
theorem gL_law_X5_scour : GoodIn wsL_law (wsV RL 114 RX5 yX5_scour wsX5_scour) := goodIn_app (goodIn_of _ (by decide +kernel)) ggL_law_X5_scour
set_option maxRecDepth 20000 in
theorem ggL_law_X7_scour : GoodIn wsL_law wsX7_scour := goodIn_r _ [256, 129, 71, 257, 1004, 1005, 1006, 1007, 1008, 1009, 1010, 1039, 1040, 1041, 1042, 1043, 1044, 1045, 1046, 1047, 1048, 1049, 1050, 1051, 1052, 1053, 1054, 1055, 1056, 1057, 1058] (by decide +kernel) (by decide +kernel)
set_option maxRecDepth 20000 in
theorem gL_law_X7_scour : GoodIn wsL_law (wsV RL 118 RX7 yX7_scour wsX7_scour) := goodIn_app (goodIn_of _ (by decide +kernel)) ggL_law_X7_scour
set_option maxRecDepth 20000 in
theorem ggL_law_L_hours : GoodIn wsL_law wsL_hours := goodIn_ca (goodIn_r _ [260, 107, 261, 262, 263, 2, 264, 112, 113, 17, 265, 266, 117, 118, 119, 267, 268, 269, 16, 270, 25, 38, 39, 271, 272, 273, 24, 274, 275, 998, 999, 1000, 1001, 1002, 1003, 1011, 1012, 1013, 1014, 1015, 1016, 1017, 1018, 1019, 1020] (by decide +kernel) (by decide +kernel)) (goodIn_sub (fun _ h => List.mem_append_left _ (List.mem_append_left _ (List.mem_append_right _ h))) (by decide +kernel))
set_option maxRecDepth 20000 in
theorem gL_law_L_hours : GoodIn wsL_law (va_wsS RL 119 yL_hours wsL_hours) := goodIn_app (goodIn_of _ (by decide +kernel)) ggL_law_L_hours
set_option maxRecDepth 20000 in
theorem ggL_law_X7_hours : GoodIn wsL_law wsX7_hours := goodIn_r _ [279, 129, 71, 280, 281, 132, 133, 5, 134, 135, 136, 137, 138, 282, 283, 284, 70, 285, 286, 287, 80, 1004, 1005, 1006, 1007, 1008, 1009, 1010, 1039, 1040, 1041, 1042, 1043, 1044, 1045, 1046, 1047, 1048, 1049, 1050, 1051, 1052, 1053, 1054, 1055, 1056, 1057, 1058] (by decide +kernel) (by decide +kernel)
set_option maxRecDepth 20000 in
theorem gL_law_X7_hours : GoodIn wsL_law (wsV RL 122 RX7 yX7_hours wsX7_hours) := goodIn_app (goodIn_of _ (by decide +kernel)) ggL_law_X7_hours
set_option maxRecDepth 20000 in
theorem ggL_law_X5_lock : GoodIn wsL_law wsX5_lock := goodIn_r _ [291, 226, 998, 999, 1000, 1001, 1002, 1003] (by decide +kernel) (by decide +kernel)
set_option maxRecDepth 20000 in
theorem gL_law_X5_lock : GoodIn wsL_law (wsV RL 123 RX5 yX5_lock wsX5_lock) := goodIn_app (goodIn_of _ (by decide +kernel)) ggL_law_X5_lock
set_option maxRecDepth 20000 in
theorem ggL_law_X7_lock : GoodIn wsL_law wsX7_lock := goodIn_r _ [295, 129, 233, 1004, 1005, 1006, 1007, 1008, 1009, 1010] (by decide +kernel) (by decide +kernel)
set_option maxRecDepth 20000 in
theorem gL_law_X7_lock : GoodIn wsL_law (wsV RL 126 RX7 yX7_lock wsX7_lock) := goodIn_app (goodIn_of _ (by decide +kernel)) ggL_law_X7_lock
set_option maxRecDepth 20000 in
theorem ggL_law_X5_bell : GoodIn wsL_law wsX5_bell := goodIn_r _ [299, 300, 998, 999, 1000, 1001, 1002, 1003] (by decide +kernel) (by decide +kernel)
set_option maxRecDepth 20000 in
theorem gL_law_X5_bell : GoodIn wsL_law (wsV RL 127 RX5 yX5_bell wsX5_bell) := goodIn_app (goodIn_of _ (by decide +kernel)) ggL_law_X5_bell
set_option maxRecDepth 20000 in
theorem ggL_law_X7_bell : GoodIn wsL_law wsX7_bell := goodIn_r _ [304, 129, 305, 1004, 1005, 1006, 1007, 1008, 1009, 1010] (by decide +kernel) (by decide +kernel)
set_option maxRecDepth 20000 in
theorem gL_law_X7_bell : GoodIn wsL_law (wsV RL 130 RX7 yX7_bell wsX7_bell) := goodIn_app (goodIn_of _ (by decide +kernel)) ggL_law_X7_bell
set_option maxRecDepth 20000 in
theorem ggL_law_L_pair : GoodIn wsL_law wsL_pair := goodIn_ca (goodIn_r _ [308, 219, 309, 310, 311, 2, 312, 224, 225, 17, 313, 314, 315, 316, 317, 36, 318, 319, 61, 998, 999, 1000, 1001, 1002, 1003, 1011, 1012, 1013, 1014, 1015, 1016, 1017, 1034, 1035, 1036, 1037, 1038] (by decide +kernel) (by decide +kernel)) (goodIn_sub (fun _ h => List.mem_append_left _ (List.mem_append_right _ h)) (by decide +kernel))
set_option maxRecDepth 20000 in
theorem gL_law_L_pair : GoodIn wsL_law (va_wsS RL 131 yL_pair wsL_pair) := goodIn_app (goodIn_of _ (by decide +kernel)) ggL_law_L_pair
set_option maxRecDepth 20000 in
theorem ggL_law_X7_pair : GoodIn wsL_law wsX7_pair := goodIn_r _ [323, 129, 71, 324, 325, 135, 136, 137, 5, 138, 1004, 1005, 1006, 1007, 1008, 1009, 1010, 1039, 1040, 1041, 1042, 1043, 1044, 1045, 1046, 1047, 1048, 1049, 1050, 1051, 1052, 1053, 1054, 1055, 1056, 1057, 1058] (by decide +kernel) (by decide +kernel)
set_option maxRecDepth 20000 in
theorem gL_law_X7_pair : GoodIn wsL_law (wsV RL 134 RX7 yX7_pair wsX7_pair) := goodIn_app (goodIn_of _ (by decide +kernel)) ggL_law_X7_pair
set_option maxRecDepth 20000 in
theorem ggL_law_L_lot : GoodIn wsL_law wsL_lot := goodIn_ca (goodIn_ca (goodIn_r _ [328, 107, 219, 329, 330, 331, 2, 332, 112, 113, 224, 225, 17, 333, 334, 114, 117, 118, 119, 335, 336, 337, 24, 338, 275, 339, 340, 341, 32, 342, 343, 50, 51, 52, 53, 54, 55, 998, 999, 1000, 1001, 1002, 1003, 1011, 1012, 1013, 1014, 1015, 1016, 1017, 1027, 1028, 1029, 1030, 1031, 1032, 1033, 1018, 1019, 1020] (by decide +kernel) (by decide +kernel)) (goodIn_sub (fun _ h => List.mem_append_left _ (List.mem_append_left _ (List.mem_append_right _ h))) (by decide +kernel))) (goodIn_sub (fun _ h => List.mem_append_left _ (List.mem_append_right _ h)) (by decide +kernel))
set_option maxRecDepth 20000 in
theorem gL_law_L_lot : GoodIn wsL_law (va_wsS RL 135 yL_lot wsL_lot) := goodIn_app (goodIn_of _ (by decide +kernel)) ggL_law_L_lot
set_option maxRecDepth 20000 in
theorem ggL_law_X7_lot : GoodIn wsL_law wsX7_lot := goodIn_r _ [347, 129, 75, 49, 71, 131, 348, 132, 133, 5, 134, 135, 136, 137, 138, 349, 350, 351, 74, 352, 353, 354, 355, 356, 357, 358, 359, 92, 360, 361, 362, 363, 364, 365, 366, 367, 368, 369, 370, 371, 91, 372, 373, 178, 374, 375, 376, 377, 378, 379, 380, 381, 382, 383, 384, 385, 386, 387, 388, 389, 390, 391, 392, 393, 394, 395, 396, 397, 398, 181, 182, 399, 400, 401, 402, 1004, 1005, 1006, 1007, 1008, 1009, 1010, 1039, 1040, 1041, 1042, 1043, 1044, 1045, 1046, 1047, 1048, 1049, 1050, 1051, 1052, 1053, 1054, 1055, 1056, 1057, 1058, 1059, 1060, 1061] (by decide +kernel) (by decide +kernel)
set_option maxRecDepth 20000 in
theorem gL_law_X7_lot : GoodIn wsL_law (wsV RL 138 RX7 yX7_lot wsX7_lot) := goodIn_app (goodIn_of _ (by decide +kernel)) ggL_law_X7_lot
set_option maxRecDepth 20000 in
theorem ggL_law_L_feed : GoodIn wsL_law wsL_feed := goodIn_ca (goodIn_ca (goodIn_r _ [405, 406, 219, 407, 408, 409, 2, 410, 411, 412, 224, 225, 17, 313, 333, 413, 414, 415, 416, 417, 36, 418, 319, 419, 420, 421, 32, 422, 343, 423, 424, 425, 426, 61, 62, 427, 428, 429, 430, 54, 998, 999, 1000, 1001, 1002, 1003, 1011, 1012, 1013, 1014, 1015, 1016, 1017, 1027, 1028, 1029, 1030, 1031, 1032, 1033, 1034, 1035, 1036, 1037, 1038] (by decide +kernel) (by decide +kernel)) (goodIn_sub (fun _ h => List.mem_append_right _ h) (by decide +kernel))) (goodIn_sub (fun _ h => List.mem_append_left _ (List.mem_append_right _ h)) (by decide +kernel))
set_option maxRecDepth 20000 in
theorem gL_law_L_feed : GoodIn wsL_law (va_wsS RL 139 yL_feed wsL_feed) := goodIn_app (goodIn_of _ (by decide +kernel)) ggL_law_L_feed
set_option maxRecDepth 20000 in
theorem ggL_law_X7_feed : GoodIn wsL_law wsX7_feed := goodIn_r _ [434, 129, 75, 435, 71, 325, 436, 437, 438, 439, 5, 440, 324, 132, 133, 134, 441, 442, 443, 444, 349, 350, 351, 74, 352, 353, 135, 136, 137, 138, 445, 446, 447, 448, 449, 450, 451, 452, 453, 454, 455, 456, 457, 458, 459, 460, 92, 461, 462, 463, 464, 1004, 1005, 1006, 1007, 1008, 1009, 1010, 1039, 1040, 1041, 1042, 1043, 1044, 1045, 1046, 1047, 1048, 1049, 1050, 1051, 1052, 1053, 1054, 1055, 1056, 1057, 1058, 1059, 1060, 1061] (by decide +kernel) (by decide +kernel)
set_option maxRecDepth 20000 in
theorem gL_law_X7_feed : GoodIn wsL_law (wsV RL 141 RX7 yX7_feed wsX7_feed) := goodIn_app (goodIn_of _ (by decide +kernel)) ggL_law_X7_feed
set_option maxRecDepth 20000 in
theorem ggL_law_L_take : GoodIn wsL_law wsL_take := goodIn_ca (goodIn_ca (goodIn_r _ [467, 406, 219, 468, 469, 470, 2, 471, 411, 412, 224, 225, 17, 313, 414, 333, 413, 415, 416, 417, 36, 418, 319, 419, 420, 421, 32, 422, 343, 998, 999, 1000, 1001, 1002, 1003, 1011, 1012, 1013, 1014, 1015, 1016, 1017, 1034, 1035, 1036, 1037, 1038, 1027, 1028, 1029, 1030, 1031, 1032, 1033] (by decide +kernel) (by decide +kernel)) (goodIn_sub (fun _ h => List.mem_append_right _ h) (by decide +kernel))) (goodIn_sub (fun _ h => List.mem_append_left _ (List.mem_append_right _ h)) (by decide +kernel))
set_option maxRecDepth 20000 in
theorem gL_law_L_take : GoodIn wsL_law (va_wsS RL 142 yL_take wsL_take) := goodIn_app (goodIn_of _ (by decide +kernel)) ggL_law_L_take
set_option maxRecDepth 20000 in
theorem ggL_law_X7_take : GoodIn wsL_law wsX7_take := goodIn_r _ [475, 129, 71, 325, 75, 435, 437, 438, 439, 5, 440, 324, 132, 133, 134, 135, 136, 137, 138, 445, 446, 447, 74, 448, 353, 449, 450, 451, 452, 453, 454, 455, 456, 457, 458, 459, 460, 92, 1004, 1005, 1006, 1007, 1008, 1009, 1010, 1039, 1040, 1041, 1042, 1043, 1044, 1045, 1046, 1047, 1048, 1049, 1050, 1051, 1052, 1053, 1054, 1055, 1056, 1057, 1058, 1059, 1060, 1061] (by decide +kernel) (by decide +kernel)
set_option maxRecDepth 20000 in
theorem gL_law_X7_take : GoodIn wsL_law (wsV RL 144 RX7 yX7_take wsX7_take) := goodIn_app (goodIn_of _ (by decide +kernel)) ggL_law_X7_take
set_option maxRecDepth 20000 in
theorem ggL_law_L_dress : GoodIn wsL_law wsL_dress := goodIn_ca (goodIn_ca (goodIn_r _ [478, 406, 219, 479, 480, 481, 2, 482, 411, 412, 224, 225, 17, 313, 483, 484, 485, 415, 416, 417, 36, 418, 319, 423, 424, 425, 426, 61, 62, 486, 487, 488, 998, 999, 1000, 1001, 1002, 1003, 1011, 1012, 1013, 1014, 1015, 1016, 1017, 1034, 1035, 1036, 1037, 1038] (by decide +kernel) (by decide +kernel)) (goodIn_sub (fun _ h => List.mem_append_right _ h) (by decide +kernel))) (goodIn_sub (fun _ h => List.mem_append_left _ (List.mem_append_right _ h)) (by decide +kernel))
set_option maxRecDepth 20000 in
theorem gL_law_L_dress : GoodIn wsL_law (va_wsS RL 145 yL_dress wsL_dress) := goodIn_app (goodIn_of _ (by decide +kernel)) ggL_law_L_dress
set_option maxRecDepth 20000 in
theorem ggL_law_X7_dress : GoodIn wsL_law wsX7_dress := goodIn_r _ [492, 129, 71, 325, 436, 493, 494, 437, 438, 439, 5, 440, 324, 132, 133, 134, 135, 136, 137, 138, 495, 496, 497, 498, 499, 500, 501, 502, 503, 504, 505, 506, 507, 508, 509, 510, 511, 512, 513, 514, 515, 516, 517, 518, 519, 520, 521, 522, 1004, 1005, 1006, 1007, 1008, 1009, 1010, 1039, 1040, 1041, 1042, 1043, 1044, 1045, 1046, 1047, 1048, 1049, 1050, 1051, 1052, 1053, 1054, 1055, 1056, 1057, 1058] (by decide +kernel) (by decide +kernel)
set_option maxRecDepth 20000 in
theorem gL_law_X7_dress : GoodIn wsL_law (wsV RL 147 RX7 yX7_dress wsX7_dress) := goodIn_app (goodIn_of _ (by decide +kernel)) ggL_law_X7_dress
set_option maxRecDepth 20000 in
theorem ggL_law_L_give : GoodIn wsL_law wsL_give := goodIn_ca (goodIn_ca (goodIn_r _ [525, 406, 219, 526, 527, 528, 2, 529, 411, 412, 224, 225, 17, 333, 413, 530, 114, 531, 532, 373, 178, 374, 533, 534, 535, 536, 419, 420, 421, 32, 422, 343, 335, 336, 337, 24, 338, 275, 537, 538, 539, 998, 999, 1000, 1001, 1002, 1003, 1011, 1012, 1013, 1014, 1015, 1016, 1017, 1027, 1028, 1029, 1030, 1031, 1032, 1033, 1018, 1019, 1020] (by decide +kernel) (by decide +kernel)) (goodIn_sub (fun _ h => List.mem_append_right _ h) (by decide +kernel))) (goodIn_sub (fun _ h => List.mem_append_left _ (List.mem_append_right _ h)) (by decide +kernel))
set_option maxRecDepth 20000 in
theorem gL_law_L_give : GoodIn wsL_law (va_wsS RL 148 yL_give wsL_give) := goodIn_app (goodIn_of _ (by decide +kernel)) ggL_law_L_give
set_option maxRecDepth 20000 in
theorem ggL_law_X7_give : GoodIn wsL_law wsX7_give := goodIn_r _ [543, 129, 75, 435, 544, 545, 71, 131, 546, 373, 178, 374, 547, 441, 442, 443, 5, 444, 349, 350, 351, 74, 352, 353, 132, 133, 134, 135, 136, 137, 138, 445, 446, 447, 448, 449, 450, 451, 452, 453, 454, 455, 456, 457, 458, 459, 460, 92, 1004, 1005, 1006, 1007, 1008, 1009, 1010, 1039, 1040, 1041, 1042, 1043, 1044, 1045, 1046, 1047, 1048, 1049, 1050, 1051, 1052, 1053, 1054, 1055, 1056, 1057, 1058, 1059, 1060, 1061] (by decide +kernel) (by decide +kernel)
set_option maxRecDepth 20000 in
theorem gL_law_X7_give : GoodIn wsL_law (wsV RL 150 RX7 yX7_give wsX7_give) := goodIn_app (goodIn_of _ (by decide +kernel)) ggL_law_X7_give
set_option maxRecDepth 20000 in
theorem ggL_law_L_pass : GoodIn wsL_law wsL_pass := goodIn_ca (goodIn_ca (goodIn_r _ [550, 107, 219, 551, 552, 553, 2, 554, 112, 113, 224, 225, 17, 114, 116, 333, 117, 118, 119, 555, 556, 557, 16, 558, 559, 560, 561, 562, 29, 25, 563, 37, 564, 33, 565, 566, 567, 158, 159, 24, 160, 161, 162, 163, 164, 165, 166, 167, 168, 169, 170, 171, 172, 173, 174, 175, 176, 177, 178, 179, 180, 181, 182, 183, 121, 122, 123, 124, 184, 185, 186, 187, 568, 569, 570, 28, 571, 572, 573, 574, 575, 576, 577, 578, 579, 580, 581, 582, 583, 584, 585, 586, 587, 588, 589, 590, 591, 592, 593, 594, 595, 596, 597, 598, 599, 600, 601, 268, 269, 270, 38, 39, 271, 272, 273, 274, 275, 602, 603, 604, 36, 605, 319, 62, 606, 607, 608, 609, 60, 610, 611, 612, 613, 61, 63, 614, 615, 420, 421, 32, 422, 343, 616, 617, 618, 619, 620, 621, 622, 623, 624, 625, 626, 55, 51, 54, 627, 628, 629, 630, 631, 632, 633, 634, 635, 636, 637, 638, 639, 640, 641, 642, 427, 428, 429, 430, 998, 999, 1000, 1001, 1002, 1003, 1011, 1012, 1013, 1014, 1015, 1016, 1017, 1018, 1019, 1020, 1021, 1022, 1023, 1024, 1025, 1026, 1034, 1035, 1036, 1037, 1038, 1027, 1028, 1029, 1030, 1031, 1032, 1033] (by decide +kernel) (by decide +kernel)) (goodIn_sub (fun _ h => List.mem_append_left _ (List.mem_append_left _ (List.mem_append_right _ h))) (by decide +kernel))) (goodIn_sub (fun _ h => List.mem_append_left _ (List.mem_append_right _ h)) (by decide +kernel))
set_option maxRecDepth 20000 in
theorem gL_law_L_pass : GoodIn wsL_law (va_wsS RL 151 yL_pass wsL_pass) := goodIn_app (goodIn_of _ (by decide +kernel)) ggL_law_L_pass
set_option maxRecDepth 20000 in
theorem ggL_law_X7_pass : GoodIn wsL_law wsX7_pass := goodIn_r _ [646, 129, 71, 131, 132, 133, 5, 134, 135, 136, 137, 138, 647, 648, 649, 70, 650, 286, 651, 652, 202, 653, 654, 655, 656, 657, 658, 208, 659, 660, 661, 662, 663, 195, 196, 197, 198, 199, 200, 201, 203, 204, 205, 206, 207, 209, 210, 211, 212, 213, 181, 178, 182, 214, 177, 179, 215, 140, 141, 142, 143, 664, 665, 666, 667, 668, 669, 670, 497, 671, 672, 673, 674, 675, 676, 677, 678, 679, 520, 509, 510, 511, 680, 681, 682, 683, 684, 685, 686, 687, 83, 81, 82, 84, 688, 283, 284, 285, 287, 80, 689, 690, 691, 692, 78, 693, 85, 694, 695, 87, 696, 446, 447, 74, 448, 353, 449, 450, 451, 452, 453, 454, 455, 456, 457, 458, 459, 460, 92, 697, 698, 699, 700, 701, 702, 703, 75, 704, 435, 349, 350, 351, 352, 445, 461, 462, 463, 464, 1004, 1005, 1006, 1007, 1008, 1009, 1010, 1039, 1040, 1041, 1042, 1043, 1044, 1045, 1046, 1047, 1048, 1049, 1050, 1051, 1052, 1053, 1054, 1055, 1056, 1057, 1058, 1059, 1060, 1061] (by decide +kernel) (by decide +kernel)
set_option maxRecDepth 20000 in
theorem gL_law_X7_pass : GoodIn wsL_law (wsV RL 153 RX7 yX7_pass wsX7_pass) := goodIn_app (goodIn_of _ (by decide +kernel)) ggL_law_X7_pass
set_option maxRecDepth 20000 in
theorem ggL_law_L_sea : GoodIn wsL_law wsL_sea := goodIn_ca (goodIn_r _ [707, 107, 708, 709, 710, 2, 711, 112, 113, 17, 114, 116, 117, 118, 119, 157, 158, 159, 24, 160, 161, 162, 163, 164, 165, 166, 167, 168, 169, 170, 171, 172, 173, 174, 175, 176, 177, 178, 179, 180, 181, 182, 183, 121, 122, 123, 124, 184, 185, 186, 187, 998, 999, 1000, 1001, 1002, 1003, 1011, 1012, 1013, 1014, 1015, 1016, 1017, 1018, 1019, 1020] (by decide +kernel) (by decide +kernel)) (goodIn_sub (fun _ h => List.mem_append_left _ (List.mem_append_left _ (List.mem_append_right _ h))) (by decide +kernel))
set_option maxRecDepth 20000 in
theorem gL_law_L_sea : GoodIn wsL_law (va_wsS RL 154 yL_sea wsL_sea) := goodIn_app (goodIn_of _ (by decide +kernel)) ggL_law_L_sea
set_option maxRecDepth 20000 in
theorem ggL_law_X7_sea : GoodIn wsL_law wsX7_sea := goodIn_r _ [715, 129, 71, 131, 132, 133, 5, 134, 135, 136, 137, 138, 194, 195, 196, 70, 197, 198, 199, 200, 201, 202, 203, 204, 205, 206, 207, 208, 209, 210, 211, 212, 213, 181, 178, 182, 214, 177, 179, 215, 140, 141, 142, 143, 1004, 1005, 1006, 1007, 1008, 1009, 1010, 1039, 1040, 1041, 1042, 1043, 1044, 1045, 1046, 1047, 1048, 1049, 1050, 1051, 1052, 1053, 1054, 1055, 1056, 1057, 1058] (by decide +kernel) (by decide +kernel)
set_option maxRecDepth 20000 in
theorem gL_law_X7_sea : GoodIn wsL_law (wsV RL 156 RX7 yX7_sea wsX7_sea) := goodIn_app (goodIn_of _ (by decide +kernel)) ggL_law_X7_sea
set_option maxRecDepth 20000 in
theorem ggL_law_L_pond : GoodIn wsL_law wsL_pond := goodIn_ca (goodIn_r _ [718, 107, 719, 720, 721, 2, 722, 112, 113, 117, 118, 119, 723, 724, 725, 726, 17, 227, 727, 728, 729, 534, 114, 116, 730, 583, 584, 28, 585, 586, 579, 731, 167, 168, 24, 169, 170, 171, 172, 173, 174, 175, 176, 177, 178, 179, 180, 181, 182, 183, 121, 122, 123, 124, 998, 999, 1000, 1001, 1002, 1003, 1011, 1012, 1013, 1014, 1015, 1016, 1017, 1021, 1022, 1023, 1024, 1025, 1026, 1018, 1019, 1020] (by decide +kernel) (by decide +kernel)) (goodIn_sub (fun _ h => List.mem_append_left _ (List.mem_append_left _ (List.mem_append_right _ h))) (by decide +kernel))
set_option maxRecDepth 20000 in
theorem gL_law_L_pond : GoodIn wsL_law (va_wsS RL 157 yL_pond wsL_pond) := goodIn_app (goodIn_of _ (by decide +kernel)) ggL_law_L_pond
set_option maxRecDepth 20000 in
theorem ggL_law_X7_pond : GoodIn wsL_law wsX7_pond := goodIn_r _ [735, 129, 132, 133, 5, 134, 135, 136, 137, 138, 736, 737, 738, 739, 71, 740, 741, 742, 544, 131, 743, 665, 666, 70, 667, 668, 654, 744, 204, 205, 206, 207, 208, 209, 210, 211, 212, 213, 181, 178, 182, 214, 177, 179, 215, 140, 141, 142, 143, 1004, 1005, 1006, 1007, 1008, 1009, 1010, 1039, 1040, 1041, 1042, 1043, 1044, 1045, 1046, 1047, 1048, 1049, 1050, 1051, 1052, 1053, 1054, 1055, 1056, 1057, 1058] (by decide +kernel) (by decide +kernel)
set_option maxRecDepth 20000 in
theorem gL_law_X7_pond : GoodIn wsL_law (wsV RL 159 RX7 yX7_pond wsX7_pond) := goodIn_app (goodIn_of _ (by decide +kernel)) ggL_law_X7_pond
set_option maxRecDepth 20000 in
theorem ggL_law_L_ofPair : GoodIn wsL_law wsL_ofPair := goodIn_ca (goodIn_ca (goodIn_r _ [747, 406, 107, 748, 749, 750, 2, 751, 411, 412, 112, 113, 17, 313, 415, 416, 417, 36, 418, 319, 117, 118, 119, 752, 753, 754, 755, 414, 483, 756, 998, 999, 1000, 1001, 1002, 1003, 1011, 1012, 1013, 1014, 1015, 1016, 1017, 1034, 1035, 1036, 1037, 1038] (by decide +kernel) (by decide +kernel)) (goodIn_sub (fun _ h => List.mem_append_right _ h) (by decide +kernel))) (goodIn_sub (fun _ h => List.mem_append_left _ (List.mem_append_left _ (List.mem_append_right _ h))) (by decide +kernel))
set_option maxRecDepth 20000 in
theorem gL_law_L_ofPair : GoodIn wsL_law (va_wsS RL 160 yL_ofPair wsL_ofPair) := goodIn_app (goodIn_of _ (by decide +kernel)) ggL_law_L_ofPair
set_option maxRecDepth 20000 in
theorem ggL_law_X7_ofPair : GoodIn wsL_law wsX7_ofPair := goodIn_r _ [760, 129, 437, 438, 439, 5, 440, 71, 324, 132, 133, 134, 135, 136, 137, 138, 761, 762, 763, 764, 325, 436, 765, 1004, 1005, 1006, 1007, 1008, 1009, 1010, 1039, 1040, 1041, 1042, 1043, 1044, 1045, 1046, 1047, 1048, 1049, 1050, 1051, 1052, 1053, 1054, 1055, 1056, 1057, 1058] (by decide +kernel) (by decide +kernel)
set_option maxRecDepth 20000 in
theorem gL_law_X7_ofPair : GoodIn wsL_law (wsV RL 162 RX7 yX7_ofPair wsX7_ofPair) := goodIn_app (goodIn_of _ (by decide +kernel)) ggL_law_X7_ofPair
set_option maxRecDepth 20000 in
theorem ggL_law_L_dull : GoodIn wsL_law wsL_dull := goodIn_ca (goodIn_r _ [768, 406, 769, 770, 771, 2, 772, 411, 412, 17, 313, 485, 415, 416, 417, 36, 418, 319, 998, 999, 1000, 1001, 1002, 1003, 1011, 1012, 1013, 1014, 1015, 1016, 1017, 1034, 1035, 1036, 1037, 1038] (by decide +kernel) (by decide +kernel)) (goodIn_sub (fun _ h => List.mem_append_right _ h) (by decide +kernel))
set_option maxRecDepth 20000 in
theorem gL_law_L_dull : GoodIn wsL_law (va_wsS RL 163 yL_dull wsL_dull) := goodIn_app (goodIn_of _ (by decide +kernel)) ggL_law_L_dull
set_option maxRecDepth 20000 in
theorem ggL_law_X7_dull : GoodIn wsL_law wsX7_dull := goodIn_r _ [776, 129, 71, 494, 437, 438, 439, 5, 440, 324, 132, 133, 134, 135, 136, 137, 138, 1004, 1005, 1006, 1007, 1008, 1009, 1010, 1039, 1040, 1041, 1042, 1043, 1044, 1045, 1046, 1047, 1048, 1049, 1050, 1051, 1052, 1053, 1054, 1055, 1056, 1057, 1058] (by decide +kernel) (by decide +kernel)
set_option maxRecDepth 20000 in
theorem gL_law_X7_dull : GoodIn wsL_law (wsV RL 165 RX7 yX7_dull wsX7_dull) := goodIn_app (goodIn_of _ (by decide +kernel)) ggL_law_X7_dull
set_option maxRecDepth 20000 in
theorem ggL_law_L_ofLot : GoodIn wsL_law wsL_ofLot := goodIn_ca (goodIn_ca (goodIn_r _ [779, 406, 107, 780, 781, 782, 2, 783, 411, 412, 112, 113, 17, 333, 419, 420, 421, 32, 422, 343, 117, 118, 119, 784, 785, 786, 787, 788, 533, 530, 531, 413, 313, 789, 790, 791, 36, 792, 319, 61, 998, 999, 1000, 1001, 1002, 1003, 1011, 1012, 1013, 1014, 1015, 1016, 1017, 1027, 1028, 1029, 1030, 1031, 1032, 1033, 1034, 1035, 1036, 1037, 1038] (by decide +kernel) (by decide +kernel)) (goodIn_sub (fun _ h => List.mem_append_right _ h) (by decide +kernel))) (goodIn_sub (fun _ h => List.mem_append_left _ (List.mem_append_left _ (List.mem_append_right _ h))) (by decide +kernel))
set_option maxRecDepth 20000 in
theorem gL_law_L_ofLot : GoodIn wsL_law (va_wsS RL 166 yL_ofLot wsL_ofLot) := goodIn_app (goodIn_of _ (by decide +kernel)) ggL_law_L_ofLot
set_option maxRecDepth 20000 in
theorem ggL_law_X7_ofLot : GoodIn wsL_law wsX7_ofLot := goodIn_r _ [796, 129, 441, 442, 443, 5, 444, 75, 349, 350, 351, 74, 352, 353, 132, 133, 134, 135, 136, 137, 138, 797, 798, 799, 800, 71, 435, 801, 802, 803, 70, 804, 661, 82, 445, 446, 447, 448, 449, 450, 451, 452, 453, 454, 455, 456, 457, 458, 459, 460, 92, 1004, 1005, 1006, 1007, 1008, 1009, 1010, 1059, 1060, 1061, 1039, 1040, 1041, 1042, 1043, 1044, 1045, 1046, 1047, 1048, 1049, 1050, 1051, 1052, 1053, 1054, 1055, 1056, 1057, 1058] (by decide +kernel) (by decide +kernel)
set_option maxRecDepth 20000 in
theorem gL_law_X7_ofLot : GoodIn wsL_law (wsV RL 168 RX7 yX7_ofLot wsX7_ofLot) := goodIn_app (goodIn_of _ (by decide +kernel)) ggL_law_X7_ofLot
set_option maxRecDepth 20000 in
theorem ggL_law_L_left : GoodIn wsL_law wsL_left := goodIn_ca (goodIn_r _ [807, 406, 808, 809, 810, 2, 811, 411, 412, 17, 333, 812, 419, 420, 421, 32, 422, 343, 998, 999, 1000, 1001, 1002, 1003, 1011, 1012, 1013, 1014, 1015, 1016, 1017, 1027, 1028, 1029, 1030, 1031, 1032, 1033] (by decide +kernel) (by decide +kernel)) (goodIn_sub (fun _ h => List.mem_append_right _ h) (by decide +kernel))
set_option maxRecDepth 20000 in
theorem gL_law_L_left : GoodIn wsL_law (va_wsS RL 169 yL_left wsL_left) := goodIn_app (goodIn_of _ (by decide +kernel)) ggL_law_L_left
set_option maxRecDepth 20000 in
theorem ggL_law_X7_left : GoodIn wsL_law wsX7_left := goodIn_r _ [816, 129, 71, 348, 441, 442, 443, 5, 444, 75, 349, 350, 351, 74, 352, 353, 132, 133, 134, 135, 136, 137, 138, 1004, 1005, 1006, 1007, 1008, 1009, 1010, 1039, 1040, 1041, 1042, 1043, 1044, 1045, 1046, 1047, 1048, 1049, 1050, 1051, 1052, 1053, 1054, 1055, 1056, 1057, 1058, 1059, 1060, 1061] (by decide +kernel) (by decide +kernel)
set_option maxRecDepth 20000 in
theorem gL_law_X7_left : GoodIn wsL_law (wsV RL 171 RX7 yX7_left wsX7_left) := goodIn_app (goodIn_of _ (by decide +kernel)) ggL_law_X7_left
set_option maxRecDepth 20000 in
theorem ggL_law_L_many : GoodIn wsL_law wsL_many := goodIn_ca (goodIn_r _ [819, 107, 820, 821, 822, 2, 823, 112, 113, 117, 118, 119, 824, 825, 826, 827, 17, 114, 116, 227, 228, 242, 313, 314, 333, 334, 828, 536, 300, 226, 335, 336, 337, 24, 338, 275, 120, 121, 122, 123, 124, 829, 173, 174, 175, 176, 177, 178, 179, 180, 181, 182, 183, 427, 428, 429, 32, 430, 343, 54, 830, 831, 832, 36, 833, 319, 63, 267, 268, 269, 16, 270, 25, 38, 39, 271, 272, 273, 274, 998, 999, 1000, 1001, 1002, 1003, 1011, 1012, 1013, 1014, 1015, 1016, 1017, 1018, 1019, 1020, 1021, 1022, 1023, 1024, 1025, 1026, 1034, 1035, 1036, 1037, 1038, 1027, 1028, 1029, 1030, 1031, 1032, 1033] (by decide +kernel) (by decide +kernel)) (goodIn_sub (fun _ h => List.mem_append_left _ (List.mem_append_left _ (List.mem_append_right _ h))) (by decide +kernel))
set_option maxRecDepth 20000 in
theorem gL_law_L_many : GoodIn wsL_law (va_wsS RL 172 yL_many wsL_many) := goodIn_app (goodIn_of _ (by decide +kernel)) ggL_law_L_many
set_option maxRecDepth 20000 in
theorem ggL_law_X7_many : GoodIn wsL_law wsX7_many := goodIn_r _ [837, 129, 132, 133, 5, 134, 135, 136, 137, 138, 838, 839, 840, 841, 71, 765, 49, 131, 234, 247, 324, 75, 842, 547, 305, 233, 139, 140, 141, 70, 142, 143, 843, 210, 211, 212, 213, 181, 178, 182, 214, 177, 179, 215, 349, 350, 351, 74, 352, 353, 461, 462, 463, 464, 435, 445, 446, 447, 448, 449, 450, 451, 452, 453, 454, 455, 456, 457, 458, 459, 460, 92, 282, 283, 284, 285, 286, 287, 80, 1004, 1005, 1006, 1007, 1008, 1009, 1010, 1039, 1040, 1041, 1042, 1043, 1044, 1045, 1046, 1047, 1048, 1049, 1050, 1051, 1052, 1053, 1054, 1055, 1056, 1057, 1058, 1059, 1060, 1061] (by decide +kernel) (by decide +kernel)
set_option maxRecDepth 20000 in
theorem gL_law_X7_many : GoodIn wsL_law (wsV RL 174 RX7 yX7_many wsX7_many) := goodIn_app (goodIn_of _ (by decide +kernel)) ggL_law_X7_many
set_option maxRecDepth 20000 in
theorem ggL_law_L_ofOwner : GoodIn wsL_law wsL_ofOwner := goodIn_ca (goodIn_r _ [846, 406, 847, 848, 849, 2, 850, 411, 412, 17, 333, 117, 118, 119, 851, 852, 853, 32, 854, 343, 50, 54, 52, 998, 999, 1000, 1001, 1002, 1003, 1011, 1012, 1013, 1014, 1015, 1016, 1017, 1027, 1028, 1029, 1030, 1031, 1032, 1033] (by decide +kernel) (by decide +kernel)) (goodIn_sub (fun _ h => List.mem_append_right _ h) (by decide +kernel))
set_option maxRecDepth 20000 in
theorem gL_law_L_ofOwner : GoodIn wsL_law (va_wsS RL 175 yL_ofOwner wsL_ofOwner) := goodIn_app (goodIn_of _ (by decide +kernel)) ggL_law_L_ofOwner
set_option maxRecDepth 20000 in
theorem ggL_law_X7_ofOwner : GoodIn wsL_law wsX7_ofOwner := goodIn_r _ [858, 129, 132, 133, 5, 134, 135, 136, 137, 138, 859, 860, 861, 862, 75, 435, 349, 350, 351, 74, 352, 353, 445, 446, 447, 448, 449, 450, 451, 452, 453, 454, 455, 456, 457, 458, 459, 460, 92, 1004, 1005, 1006, 1007, 1008, 1009, 1010, 1059, 1060, 1061] (by decide +kernel) (by decide +kernel)
set_option maxRecDepth 20000 in
theorem gL_law_X7_ofOwner : GoodIn wsL_law (wsV RL 178 RX7 yX7_ofOwner wsX7_ofOwner) := goodIn_app (goodIn_of _ (by decide +kernel)) ggL_law_X7_ofOwner
set_option maxRecDepth 20000 in
theorem ggL_law_X5_high : GoodIn wsL_law wsX5_high := goodIn_r _ [866, 17, 114, 867, 868, 869, 24, 870, 275, 161, 871, 184, 185, 186, 187, 170, 998, 999, 1000, 1001, 1002, 1003, 1011, 1012, 1013, 1014, 1015, 1016, 1017, 1018, 1019, 1020] (by decide +kernel) (by decide +kernel)
set_option maxRecDepth 20000 in
theorem gL_law_X5_high : GoodIn wsL_law (wsV RL 179 RX5 yX5_high wsX5_high) := goodIn_app (goodIn_of _ (by decide +kernel)) ggL_law_X5_high
set_option maxRecDepth 20000 in
theorem ggL_law_X7_high : GoodIn wsL_law wsX7_high := goodIn_r _ [875, 129, 876, 877, 878, 5, 879, 71, 131, 880, 881, 882, 1004, 1005, 1006, 1007, 1008, 1009, 1010, 1039, 1040, 1041, 1042, 1043, 1044, 1045, 1046, 1047, 1048, 1049, 1050, 1051, 1052, 1053, 1054, 1055, 1056, 1057, 1058] (by decide +kernel) (by decide +kernel)
set_option maxRecDepth 20000 in
theorem gL_law_X7_high : GoodIn wsL_law (wsV RL 182 RX7 yX7_high wsX7_high) := goodIn_app (goodIn_of _ (by decide +kernel)) ggL_law_X7_high
set_option maxRecDepth 20000 in
theorem ggL_law_L_wouldLevel : GoodIn wsL_law wsL_wouldLevel := goodIn_ca (goodIn_r _ [885, 107, 886, 887, 888, 2, 889, 112, 113, 18, 17, 227, 727, 117, 118, 119, 890, 891, 892, 16, 893, 25, 29, 33, 37, 38, 39, 565, 894, 895, 896, 24, 897, 275, 124, 164, 898, 899, 900, 28, 901, 577, 579, 576, 593, 599, 592, 902, 903, 904, 32, 905, 50, 906, 400, 401, 402, 51, 52, 53, 54, 55, 343, 907, 908, 909, 36, 910, 60, 911, 61, 62, 63, 319, 555, 556, 557, 558, 559, 560, 561, 562, 563, 564, 566, 567, 158, 159, 160, 161, 162, 163, 165, 166, 167, 168, 169, 170, 171, 172, 173, 174, 175, 176, 177, 178, 179, 180, 181, 182, 183, 121, 122, 123, 184, 185, 186, 187, 568, 569, 570, 571, 572, 573, 574, 575, 578, 580, 581, 582, 583, 584, 585, 586, 587, 588, 589, 590, 591, 594, 595, 596, 597, 598, 600, 601, 268, 269, 270, 271, 272, 273, 274, 602, 603, 604, 605, 606, 607, 608, 609, 610, 611, 612, 613, 614, 615, 420, 421, 422, 616, 617, 618, 619, 620, 621, 622, 623, 624, 625, 626, 627, 628, 629, 630, 631, 632, 633, 634, 635, 636, 637, 638, 639, 640, 641, 642, 998, 999, 1000, 1001, 1002, 1003, 1011, 1012, 1013, 1014, 1015, 1016, 1017, 1021, 1022, 1023, 1024, 1025, 1026, 1018, 1019, 1020, 1027, 1028, 1029, 1030, 1031, 1032, 1033, 1034, 1035, 1036, 1037, 1038] (by decide +kernel) (by decide +kernel)) (goodIn_sub (fun _ h => List.mem_append_left _ (List.mem_append_left _ (List.mem_append_right _ h))) (by decide +kernel))
set_option maxRecDepth 20000 in
theorem gL_law_L_wouldLevel : GoodIn wsL_law (va_wsS RL 183 yL_wouldLevel wsL_wouldLevel) := goodIn_app (goodIn_of _ (by decide +kernel)) ggL_law_L_wouldLevel
set_option maxRecDepth 20000 in
theorem ggL_law_X7_wouldLevel : GoodIn wsL_law wsX7_wouldLevel := goodIn_r _ [915, 129, 71, 740, 132, 133, 5, 134, 135, 136, 137, 138, 916, 917, 918, 70, 919, 920, 69, 78, 286, 143, 201, 652, 654, 651, 658, 659, 287, 80, 661, 81, 921, 400, 401, 402, 82, 83, 85, 87, 922, 76, 77, 79, 12, 13, 59, 49, 84, 7, 86, 647, 648, 649, 650, 202, 653, 655, 656, 657, 208, 660, 662, 663, 195, 196, 197, 198, 199, 200, 203, 204, 205, 206, 207, 209, 210, 211, 212, 213, 181, 178, 182, 214, 177, 179, 215, 140, 141, 142, 664, 665, 666, 667, 668, 669, 670, 497, 671, 672, 673, 674, 675, 676, 677, 678, 679, 520, 509, 510, 511, 680, 681, 682, 683, 684, 685, 686, 687, 688, 283, 284, 285, 689, 690, 691, 692, 693, 694, 695, 696, 446, 447, 74, 448, 353, 449, 450, 451, 452, 453, 454, 455, 456, 457, 458, 459, 460, 92, 697, 698, 699, 1004, 1005, 1006, 1007, 1008, 1009, 1010, 1039, 1040, 1041, 1042, 1043, 1044, 1045, 1046, 1047, 1048, 1049, 1050, 1051, 1052, 1053, 1054, 1055, 1056, 1057, 1058, 1059, 1060, 1061] (by decide +kernel) (by decide +kernel)
set_option maxRecDepth 20000 in
theorem gL_law_X7_wouldLevel : GoodIn wsL_law (wsV RL 185 RX7 yX7_wouldLevel wsX7_wouldLevel) := goodIn_app (goodIn_of _ (by decide +kernel)) ggL_law_X7_wouldLevel
set_option maxRecDepth 20000 in
theorem ggL_law_L_wouldDone : GoodIn wsL_law wsL_wouldDone := goodIn_ca (goodIn_r _ [925, 406, 926, 927, 928, 2, 929, 411, 412, 17, 333, 419, 420, 421, 32, 422, 343, 930, 931, 932, 933, 413, 18, 890, 891, 892, 16, 893, 25, 29, 33, 37, 38, 39, 565, 894, 895, 896, 24, 897, 275, 124, 164, 898, 899, 900, 28, 901, 577, 579, 576, 593, 599, 592, 902, 903, 904, 905, 50, 906, 400, 401, 402, 51, 52, 53, 54, 55, 907, 908, 909, 36, 910, 60, 911, 61, 62, 63, 319, 934, 560, 561, 562, 563, 564, 566, 567, 158, 159, 160, 161, 162, 163, 165, 166, 167, 168, 169, 170, 171, 172, 173, 174, 175, 176, 177, 178, 179, 180, 181, 182, 183, 121, 122, 123, 184, 185, 186, 187, 568, 569, 570, 571, 572, 573, 574, 575, 578, 580, 581, 582, 583, 584, 585, 586, 587, 588, 589, 590, 591, 594, 595, 596, 597, 598, 600, 601, 268, 269, 270, 271, 272, 273, 274, 602, 603, 604, 605, 606, 607, 608, 609, 610, 611, 612, 613, 614, 615, 616, 617, 618, 619, 620, 621, 622, 623, 624, 625, 626, 627, 628, 629, 630, 631, 632, 633, 634, 635, 636, 637, 638, 639, 640, 641, 642, 998, 999, 1000, 1001, 1002, 1003, 1011, 1012, 1013, 1014, 1015, 1016, 1017, 1027, 1028, 1029, 1030, 1031, 1032, 1033, 1018, 1019, 1020, 1021, 1022, 1023, 1024, 1025, 1026, 1034, 1035, 1036, 1037, 1038] (by decide +kernel) (by decide +kernel)) (goodIn_sub (fun _ h => List.mem_append_right _ h) (by decide +kernel))
set_option maxRecDepth 20000 in
theorem gL_law_L_wouldDone : GoodIn wsL_law (va_wsS RL 186 yL_wouldDone wsL_wouldDone) := goodIn_app (goodIn_of _ (by decide +kernel)) ggL_law_L_wouldDone
set_option maxRecDepth 20000 in
theorem ggL_law_X7_wouldDone : GoodIn wsL_law wsX7_wouldDone := goodIn_r _ [938, 129, 441, 442, 443, 5, 444, 75, 349, 350, 351, 74, 352, 353, 132, 133, 134, 135, 136, 137, 138, 939, 940, 941, 942, 435, 71, 704, 445, 446, 447, 448, 449, 450, 451, 452, 453, 454, 455, 456, 457, 458, 459, 460, 92, 916, 917, 918, 70, 919, 920, 69, 78, 286, 143, 201, 652, 654, 651, 658, 659, 287, 80, 661, 81, 921, 400, 401, 402, 82, 83, 85, 87, 922, 76, 77, 79, 12, 13, 59, 49, 84, 7, 86, 647, 648, 649, 650, 202, 653, 655, 656, 657, 208, 660, 662, 663, 195, 196, 197, 198, 199, 200, 203, 204, 205, 206, 207, 209, 210, 211, 212, 213, 181, 178, 182, 214, 177, 179, 215, 140, 141, 142, 664, 665, 666, 667, 668, 669, 670, 497, 671, 672, 673, 674, 675, 676, 677, 678, 679, 520, 509, 510, 511, 680, 681, 682, 683, 684, 685, 686, 687, 688, 283, 284, 285, 689, 690, 691, 692, 693, 694, 695, 696, 697, 698, 699, 1004, 1005, 1006, 1007, 1008, 1009, 1010, 1059, 1060, 1061, 1039, 1040, 1041, 1042, 1043, 1044, 1045, 1046, 1047, 1048, 1049, 1050, 1051, 1052, 1053, 1054, 1055, 1056, 1057, 1058] (by decide +kernel) (by decide +kernel)
set_option maxRecDepth 20000 in
theorem gL_law_X7_wouldDone : GoodIn wsL_law (wsV RL 188 RX7 yX7_wouldDone wsX7_wouldDone) := goodIn_app (goodIn_of _ (by decide +kernel)) ggL_law_X7_wouldDone
set_option maxRecDepth 20000 in
theorem ggL_law_L_best : GoodIn wsL_law wsL_best := goodIn_ca (goodIn_r _ [945, 107, 946, 947, 948, 2, 949, 112, 113, 117, 118, 119, 950, 951, 952, 953, 954, 955, 956, 957, 18, 17, 227, 242, 333, 890, 891, 892, 16, 893, 25, 29, 33, 37, 38, 39, 565, 894, 895, 896, 24, 897, 275, 124, 164, 898, 899, 900, 28, 901, 577, 579, 576, 593, 599, 592, 902, 903, 904, 32, 905, 50, 906, 400, 401, 402, 51, 52, 53, 54, 55, 343, 907, 908, 909, 36, 910, 60, 911, 61, 62, 63, 319, 555, 556, 557, 558, 559, 560, 561, 562, 563, 564, 566, 567, 158, 159, 160, 161, 162, 163, 165, 166, 167, 168, 169, 170, 171, 172, 173, 174, 175, 176, 177, 178, 179, 180, 181, 182, 183, 121, 122, 123, 184, 185, 186, 187, 568, 569, 570, 571, 572, 573, 574, 575, 578, 580, 581, 582, 583, 584, 585, 586, 587, 588, 589, 590, 591, 594, 595, 596, 597, 598, 600, 601, 268, 269, 270, 271, 272, 273, 274, 602, 603, 604, 605, 606, 607, 608, 609, 610, 611, 612, 613, 614, 615, 420, 421, 422, 616, 617, 618, 619, 620, 621, 622, 623, 624, 625, 626, 627, 628, 629, 630, 631, 632, 633, 634, 635, 636, 637, 638, 639, 640, 641, 642, 958, 959, 960, 961, 998, 999, 1000, 1001, 1002, 1003, 1011, 1012, 1013, 1014, 1015, 1016, 1017, 1021, 1022, 1023, 1024, 1025, 1026, 1018, 1019, 1020, 1027, 1028, 1029, 1030, 1031, 1032, 1033, 1034, 1035, 1036, 1037, 1038] (by decide +kernel) (by decide +kernel)) (goodIn_sub (fun _ h => List.mem_append_left _ (List.mem_append_left _ (List.mem_append_right _ h))) (by decide +kernel))
set_option maxRecDepth 20000 in
theorem gL_law_L_best : GoodIn wsL_law (va_wsS RL 189 yL_best wsL_best) := goodIn_app (goodIn_of _ (by decide +kernel)) ggL_law_L_best
set_option maxRecDepth 20000 in
theorem ggL_law_X7_best : GoodIn wsL_law wsX7_best := goodIn_r _ [965, 129, 132, 133, 5, 134, 135, 136, 137, 138, 966, 967, 968, 969, 71, 247, 75, 348, 916, 917, 918, 70, 919, 920, 69, 78, 286, 143, 201, 652, 654, 651, 658, 659, 287, 80, 661, 81, 921, 400, 401, 402, 82, 83, 85, 87, 922, 76, 77, 79, 12, 13, 59, 49, 84, 7, 86, 647, 648, 649, 650, 202, 653, 655, 656, 657, 208, 660, 662, 663, 195, 196, 197, 198, 199, 200, 203, 204, 205, 206, 207, 209, 210, 211, 212, 213, 181, 178, 182, 214, 177, 179, 215, 140, 141, 142, 664, 665, 666, 667, 668, 669, 670, 497, 671, 672, 673, 674, 675, 676, 677, 678, 679, 520, 509, 510, 511, 680, 681, 682, 683, 684, 685, 686, 687, 688, 283, 284, 285, 689, 690, 691, 692, 693, 694, 695, 696, 446, 447, 74, 448, 353, 449, 450, 451, 452, 453, 454, 455, 456, 457, 458, 459, 460, 92, 697, 698, 699, 349, 350, 351, 352, 1004, 1005, 1006, 1007, 1008, 1009, 1010, 1039, 1040, 1041, 1042, 1043, 1044, 1045, 1046, 1047, 1048, 1049, 1050, 1051, 1052, 1053, 1054, 1055, 1056, 1057, 1058, 1059, 1060, 1061] (by decide +kernel) (by decide +kernel)
set_option maxRecDepth 20000 in
theorem gL_law_X7_best : GoodIn wsL_law (wsV RL 191 RX7 yX7_best wsX7_best) := goodIn_app (goodIn_of _ (by decide +kernel)) ggL_law_X7_best
set_option maxRecDepth 20000 in
theorem ggL_law_X5_digest : GoodIn wsL_law wsX5_digest := goodIn_r _ [973, 974, 17, 313, 314, 333, 334, 114, 824, 825, 826, 2, 827, 116, 227, 228, 242, 828, 536, 300, 226, 335, 336, 337, 24, 338, 275, 120, 121, 122, 123, 124, 829, 173, 174, 175, 176, 177, 178, 179, 180, 181, 182, 183, 427, 428, 429, 32, 430, 343, 54, 830, 831, 832, 36, 833, 319, 63, 267, 268, 269, 16, 270, 25, 38, 39, 271, 272, 273, 274, 975, 976, 977, 978, 723, 724, 725, 726, 727, 728, 729, 534, 730, 583, 584, 28, 585, 586, 579, 731, 167, 168, 169, 170, 171, 172, 979, 980, 981, 982, 983, 984, 985, 986, 485, 752, 753, 754, 755, 414, 483, 756, 987, 988, 989, 990, 812, 784, 785, 786, 787, 788, 533, 530, 531, 413, 789, 790, 791, 792, 61, 930, 931, 932, 933, 18, 890, 891, 892, 893, 29, 33, 37, 565, 894, 895, 896, 897, 164, 898, 899, 900, 901, 577, 576, 593, 599, 592, 902, 903, 904, 905, 50, 906, 400, 401, 402, 51, 52, 53, 55, 907, 908, 909, 910, 60, 911, 62, 934, 560, 561, 562, 563, 564, 566, 567, 158, 159, 160, 161, 162, 163, 165, 166, 184, 185, 186, 187, 568, 569, 570, 571, 572, 573, 574, 575, 578, 580, 581, 582, 587, 588, 589, 590, 591, 594, 595, 596, 597, 598, 600, 601, 602, 603, 604, 605, 606, 607, 608, 609, 610, 611, 612, 613, 614, 615, 420, 421, 422, 616, 617, 618, 619, 620, 621, 622, 623, 624, 625, 626, 627, 628, 629, 630, 631, 632, 633, 634, 635, 636, 637, 638, 639, 640, 641, 642, 851, 852, 853, 854, 867, 868, 869, 870, 871, 950, 951, 952, 953, 954, 955, 956, 957, 555, 556, 557, 558, 559, 958, 959, 960, 961, 998, 999, 1000, 1001, 1002, 1003, 1011, 1012, 1013, 1014, 1015, 1016, 1017, 1034, 1035, 1036, 1037, 1038, 1027, 1028, 1029, 1030, 1031, 1032, 1033, 1018, 1019, 1020, 1021, 1022, 1023, 1024, 1025, 1026] (by decide +kernel) (by decide +kernel)
set_option maxRecDepth 20000 in
theorem gL_law_X5_digest : GoodIn wsL_law (wsV RL 192 RX5 yX5_digest wsX5_digest) := goodIn_app (goodIn_of _ (by decide +kernel)) ggL_law_X5_digest
set_option maxRecDepth 20000 in
theorem ggL_law_X7_digest : GoodIn wsL_law wsX7_digest := goodIn_r _ [994, 129, 995, 996, 997, 71, 740, 741, 544, 324, 494, 75, 348, 838, 839, 840, 5, 841, 765, 49, 131, 234, 247, 842, 547, 305, 233, 139, 140, 141, 70, 142, 143, 843, 210, 211, 212, 213, 181, 178, 182, 214, 177, 179, 215, 349, 350, 351, 74, 352, 353, 461, 462, 463, 464, 435, 445, 446, 447, 448, 449, 450, 451, 452, 453, 454, 455, 456, 457, 458, 459, 460, 92, 282, 283, 284, 285, 286, 287, 80, 761, 762, 763, 764, 325, 436, 797, 798, 799, 800, 801, 802, 803, 804, 661, 82, 939, 940, 941, 942, 704, 916, 917, 918, 919, 920, 69, 78, 201, 652, 654, 651, 658, 659, 81, 921, 400, 401, 402, 83, 85, 87, 922, 76, 77, 79, 12, 13, 59, 84, 7, 86, 647, 648, 649, 650, 202, 653, 655, 656, 657, 208, 660, 662, 663, 195, 196, 197, 198, 199, 200, 203, 204, 205, 206, 207, 209, 664, 665, 666, 667, 668, 669, 670, 497, 671, 672, 673, 674, 675, 676, 677, 678, 679, 520, 509, 510, 511, 680, 681, 682, 683, 684, 685, 686, 687, 688, 689, 690, 691, 692, 693, 694, 695, 696, 697, 698, 699, 133, 134, 859, 860, 861, 862, 876, 877, 878, 879, 880, 881, 882, 966, 967, 968, 969, 1004, 1005, 1006, 1007, 1008, 1009, 1010, 1039, 1040, 1041, 1042, 1043, 1044, 1045, 1046, 1047, 1048, 1049, 1050, 1051, 1052, 1053, 1054, 1055, 1056, 1057, 1058, 1059, 1060, 1061] (by decide +kernel) (by decide +kernel)
set_option maxRecDepth 20000 in
theorem gL_law_X7_digest : GoodIn wsL_law (wsV RL 196 RX7 yX7_digest wsX7_digest) := goodIn_app (goodIn_of _ (by decide +kernel)) ggL_law_X7_digest
theorem dL_law_0 : decode cL_law 0 = .ok (.new 8, 3) := by decide +kernel
theorem dL_law_3 : decode cL_law 3 = .ok (.dup, 1) := by decide +kernel
theorem dL_law_4 : decode cL_law 4 = .ok (.invokespecial 91, 3) := by decide +kernel
theorem dL_law_7 : decode cL_law 7 = .ok (.astore_n 1, 1) := by decide +kernel
theorem dL_law_8 : decode cL_law 8 = .ok (.new 92, 3) := by decide +kernel
theorem dL_law_11 : decode cL_law 11 = .ok (.dup, 1) := by decide +kernel
theorem dL_law_12 : decode cL_law 12 = .ok (.invokespecial 94, 3) := by decide +kernel
theorem dL_law_15 : decode cL_law 15 = .ok (.astore_n 2, 1) := by decide +kernel
theorem dL_law_16 : decode cL_law 16 = .ok (.iconst 1, 1) := by decide +kernel
theorem dL_law_17 : decode cL_law 17 = .ok (.newarray .long, 2) := by decide +kernel
theorem dL_law_19 : decode cL_law 19 = .ok (.astore_n 3, 1) := by decide +kernel
theorem dL_law_20 : decode cL_law 20 = .ok (.iconst 1, 1) := by decide +kernel
theorem dL_law_21 : decode cL_law 21 = .ok (.newarray .double, 2) := by decide +kernel
theorem dL_law_23 : decode cL_law 23 = .ok (.astore 4, 2) := by decide +kernel
theorem dL_law_25 : decode cL_law 25 = .ok (.iconst 0, 1) := by decide +kernel
theorem dL_law_26 : decode cL_law 26 = .ok (.istore 5, 2) := by decide +kernel
theorem dL_law_28 : decode cL_law 28 = .ok (.iload 5, 2) := by decide +kernel
theorem dL_law_30 : decode cL_law 30 = .ok (.aload_n 0, 1) := by decide +kernel
theorem dL_law_31 : decode cL_law 31 = .ok (.arraylength, 1) := by decide +kernel
theorem dL_law_32 : decode cL_law 32 = .ok (.iconst 5, 1) := by decide +kernel
theorem dL_law_33 : decode cL_law 33 = .ok (.isub, 1) := by decide +kernel
theorem dL_law_34 : decode cL_law 34 = .ok (.if_icmp .gt 1787, 3) := by decide +kernel
theorem dL_law_37 : decode cL_law 37 = .ok (.aload_n 0, 1) := by decide +kernel
theorem dL_law_38 : decode cL_law 38 = .ok (.iload 5, 2) := by decide +kernel
theorem dL_law_40 : decode cL_law 40 = .ok (.iaload, 1) := by decide +kernel
theorem dL_law_41 : decode cL_law 41 = .ok (.bipush 31, 2) := by decide +kernel
theorem dL_law_43 : decode cL_law 43 = .ok (.iand, 1) := by decide +kernel
theorem dL_law_44 : decode cL_law 44 = .ok (.tableswitch 1771 0 27 #[128, 184, 261, 317, 373, 414, 489, 530, 543, 587, 679, 747, 803, 859, 915, 971, 1048, 1125, 1193, 1270, 1338, 1415, 1471, 1555, 1568, 1645, 1701, 1757], 128) := by decide +kernel
theorem dL_law_172 : decode cL_law 172 = .ok (.aload_n 1, 1) := by decide +kernel
theorem dL_law_173 : decode cL_law 173 = .ok (.aload_n 0, 1) := by decide +kernel
theorem dL_law_174 : decode cL_law 174 = .ok (.iload 5, 2) := by decide +kernel
theorem dL_law_176 : decode cL_law 176 = .ok (.iconst 1, 1) := by decide +kernel
theorem dL_law_177 : decode cL_law 177 = .ok (.iadd, 1) := by decide +kernel
theorem dL_law_178 : decode cL_law 178 = .ok (.iaload, 1) := by decide +kernel
theorem dL_law_179 : decode cL_law 179 = .ok (.aload_n 3, 1) := by decide +kernel
theorem dL_law_180 : decode cL_law 180 = .ok (.invokestatic 95, 3) := by decide +kernel
theorem dL_law_183 : decode cL_law 183 = .ok (.istore 6, 2) := by decide +kernel
theorem dL_law_185 : decode cL_law 185 = .ok (.aload_n 2, 1) := by decide +kernel
theorem dL_law_186 : decode cL_law 186 = .ok (.aload_n 0, 1) := by decide +kernel
theorem dL_law_187 : decode cL_law 187 = .ok (.iload 5, 2) := by decide +kernel
theorem dL_law_189 : decode cL_law 189 = .ok (.iconst 1, 1) := by decide +kernel
theorem dL_law_190 : decode cL_law 190 = .ok (.iadd, 1) := by decide +kernel
theorem dL_law_191 : decode cL_law 191 = .ok (.iaload, 1) := by decide +kernel
theorem dL_law_192 : decode cL_law 192 = .ok (.invokevirtual 100, 3) := by decide +kernel
theorem dL_law_195 : decode cL_law 195 = .ok (.istore 7, 2) := by decide +kernel
theorem dL_law_197 : decode cL_law 197 = .ok (.aload_n 2, 1) := by decide +kernel
theorem dL_law_198 : decode cL_law 198 = .ok (.invokevirtual 101, 3) := by decide +kernel
theorem dL_law_201 : decode cL_law 201 = .ok (.iload 6, 2) := by decide +kernel
theorem dL_law_203 : decode cL_law 203 = .ok (.if_icmp .eq 5, 3) := by decide +kernel
theorem dL_law_206 : decode cL_law 206 = .ok (.iconst 0, 1) := by decide +kernel
theorem dL_law_207 : decode cL_law 207 = .ok (.ireturn, 1) := by decide +kernel
theorem dL_law_208 : decode cL_law 208 = .ok (.iload 6, 2) := by decide +kernel
theorem dL_law_210 : decode cL_law 210 = .ok (.ifCond .ne 15, 3) := by decide +kernel
theorem dL_law_213 : decode cL_law 213 = .ok (.aload_n 3, 1) := by decide +kernel
theorem dL_law_214 : decode cL_law 214 = .ok (.iconst 0, 1) := by decide +kernel
theorem dL_law_215 : decode cL_law 215 = .ok (.laload, 1) := by decide +kernel
theorem dL_law_216 : decode cL_law 216 = .ok (.iload 7, 2) := by decide +kernel
theorem dL_law_218 : decode cL_law 218 = .ok (.i2l, 1) := by decide +kernel
theorem dL_law_219 : decode cL_law 219 = .ok (.lcmp, 1) := by decide +kernel
theorem dL_law_220 : decode cL_law 220 = .ok (.ifCond .eq 5, 3) := by decide +kernel
theorem dL_law_223 : decode cL_law 223 = .ok (.iconst 0, 1) := by decide +kernel
theorem dL_law_224 : decode cL_law 224 = .ok (.ireturn, 1) := by decide +kernel
theorem dL_law_225 : decode cL_law 225 = .ok (.goto 1590, 3) := by decide +kernel
theorem dL_law_228 : decode cL_law 228 = .ok (.aload_n 1, 1) := by decide +kernel
theorem dL_law_229 : decode cL_law 229 = .ok (.aload_n 0, 1) := by decide +kernel
theorem dL_law_230 : decode cL_law 230 = .ok (.iload 5, 2) := by decide +kernel
theorem dL_law_232 : decode cL_law 232 = .ok (.iconst 1, 1) := by decide +kernel
theorem dL_law_233 : decode cL_law 233 = .ok (.iadd, 1) := by decide +kernel
theorem dL_law_234 : decode cL_law 234 = .ok (.iaload, 1) := by decide +kernel
theorem dL_law_235 : decode cL_law 235 = .ok (.aload 4, 2) := by decide +kernel
theorem dL_law_237 : decode cL_law 237 = .ok (.invokestatic 104, 3) := by decide +kernel
theorem dL_law_240 : decode cL_law 240 = .ok (.istore 6, 2) := by decide +kernel
theorem dL_law_242 : decode cL_law 242 = .ok (.aload_n 2, 1) := by decide +kernel
theorem dL_law_243 : decode cL_law 243 = .ok (.aload_n 0, 1) := by decide +kernel
theorem dL_law_244 : decode cL_law 244 = .ok (.iload 5, 2) := by decide +kernel
theorem dL_law_246 : decode cL_law 246 = .ok (.iconst 1, 1) := by decide +kernel
theorem dL_law_247 : decode cL_law 247 = .ok (.iadd, 1) := by decide +kernel
theorem dL_law_248 : decode cL_law 248 = .ok (.iaload, 1) := by decide +kernel
theorem dL_law_249 : decode cL_law 249 = .ok (.invokevirtual 107, 3) := by decide +kernel
theorem dL_law_252 : decode cL_law 252 = .ok (.dstore 7, 2) := by decide +kernel
theorem dL_law_254 : decode cL_law 254 = .ok (.aload_n 2, 1) := by decide +kernel
theorem dL_law_255 : decode cL_law 255 = .ok (.invokevirtual 101, 3) := by decide +kernel
theorem dL_law_258 : decode cL_law 258 = .ok (.iload 6, 2) := by decide +kernel
theorem dL_law_260 : decode cL_law 260 = .ok (.if_icmp .eq 5, 3) := by decide +kernel
theorem dL_law_263 : decode cL_law 263 = .ok (.iconst 0, 1) := by decide +kernel
theorem dL_law_264 : decode cL_law 264 = .ok (.ireturn, 1) := by decide +kernel
theorem dL_law_265 : decode cL_law 265 = .ok (.iload 6, 2) := by decide +kernel
theorem dL_law_267 : decode cL_law 267 = .ok (.ifCond .ne 35, 3) := by decide +kernel
theorem dL_law_270 : decode cL_law 270 = .ok (.aload 4, 2) := by decide +kernel
theorem dL_law_272 : decode cL_law 272 = .ok (.iconst 0, 1) := by decide +kernel
theorem dL_law_273 : decode cL_law 273 = .ok (.daload, 1) := by decide +kernel
theorem dL_law_274 : decode cL_law 274 = .ok (.dload 7, 2) := by decide +kernel
theorem dL_law_276 : decode cL_law 276 = .ok (.dcmp .l, 1) := by decide +kernel
theorem dL_law_277 : decode cL_law 277 = .ok (.ifCond .eq 25, 3) := by decide +kernel
theorem dL_law_280 : decode cL_law 280 = .ok (.aload 4, 2) := by decide +kernel
theorem dL_law_282 : decode cL_law 282 = .ok (.iconst 0, 1) := by decide +kernel
theorem dL_law_283 : decode cL_law 283 = .ok (.daload, 1) := by decide +kernel
theorem dL_law_284 : decode cL_law 284 = .ok (.aload 4, 2) := by decide +kernel
theorem dL_law_286 : decode cL_law 286 = .ok (.iconst 0, 1) := by decide +kernel
theorem dL_law_287 : decode cL_law 287 = .ok (.daload, 1) := by decide +kernel
theorem dL_law_288 : decode cL_law 288 = .ok (.dcmp .l, 1) := by decide +kernel
theorem dL_law_289 : decode cL_law 289 = .ok (.ifCond .eq 11, 3) := by decide +kernel
theorem dL_law_292 : decode cL_law 292 = .ok (.dload 7, 2) := by decide +kernel
theorem dL_law_294 : decode cL_law 294 = .ok (.dload 7, 2) := by decide +kernel
theorem dL_law_296 : decode cL_law 296 = .ok (.dcmp .l, 1) := by decide +kernel
theorem dL_law_297 : decode cL_law 297 = .ok (.ifCond .ne 5, 3) := by decide +kernel
theorem dL_law_300 : decode cL_law 300 = .ok (.iconst 0, 1) := by decide +kernel
theorem dL_law_301 : decode cL_law 301 = .ok (.ireturn, 1) := by decide +kernel
theorem dL_law_302 : decode cL_law 302 = .ok (.goto 1513, 3) := by decide +kernel
theorem dL_law_305 : decode cL_law 305 = .ok (.aload_n 1, 1) := by decide +kernel
theorem dL_law_306 : decode cL_law 306 = .ok (.aload_n 0, 1) := by decide +kernel
theorem dL_law_307 : decode cL_law 307 = .ok (.iload 5, 2) := by decide +kernel
theorem dL_law_309 : decode cL_law 309 = .ok (.iconst 1, 1) := by decide +kernel
theorem dL_law_310 : decode cL_law 310 = .ok (.iadd, 1) := by decide +kernel
theorem dL_law_311 : decode cL_law 311 = .ok (.iaload, 1) := by decide +kernel
theorem dL_law_312 : decode cL_law 312 = .ok (.aload_n 3, 1) := by decide +kernel
theorem dL_law_313 : decode cL_law 313 = .ok (.invokestatic 108, 3) := by decide +kernel
theorem dL_law_316 : decode cL_law 316 = .ok (.istore 6, 2) := by decide +kernel
theorem dL_law_318 : decode cL_law 318 = .ok (.aload_n 2, 1) := by decide +kernel
theorem dL_law_319 : decode cL_law 319 = .ok (.aload_n 0, 1) := by decide +kernel
theorem dL_law_320 : decode cL_law 320 = .ok (.iload 5, 2) := by decide +kernel
theorem dL_law_322 : decode cL_law 322 = .ok (.iconst 1, 1) := by decide +kernel
theorem dL_law_323 : decode cL_law 323 = .ok (.iadd, 1) := by decide +kernel
theorem dL_law_324 : decode cL_law 324 = .ok (.iaload, 1) := by decide +kernel
theorem dL_law_325 : decode cL_law 325 = .ok (.invokevirtual 110, 3) := by decide +kernel
theorem dL_law_328 : decode cL_law 328 = .ok (.istore 7, 2) := by decide +kernel
theorem dL_law_330 : decode cL_law 330 = .ok (.aload_n 2, 1) := by decide +kernel
theorem dL_law_331 : decode cL_law 331 = .ok (.invokevirtual 101, 3) := by decide +kernel
theorem dL_law_334 : decode cL_law 334 = .ok (.iload 6, 2) := by decide +kernel
theorem dL_law_336 : decode cL_law 336 = .ok (.if_icmp .eq 5, 3) := by decide +kernel
theorem dL_law_339 : decode cL_law 339 = .ok (.iconst 0, 1) := by decide +kernel
theorem dL_law_340 : decode cL_law 340 = .ok (.ireturn, 1) := by decide +kernel
theorem dL_law_341 : decode cL_law 341 = .ok (.iload 6, 2) := by decide +kernel
theorem dL_law_343 : decode cL_law 343 = .ok (.ifCond .ne 15, 3) := by decide +kernel
theorem dL_law_346 : decode cL_law 346 = .ok (.aload_n 3, 1) := by decide +kernel
theorem dL_law_347 : decode cL_law 347 = .ok (.iconst 0, 1) := by decide +kernel
theorem dL_law_348 : decode cL_law 348 = .ok (.laload, 1) := by decide +kernel
theorem dL_law_349 : decode cL_law 349 = .ok (.iload 7, 2) := by decide +kernel
theorem dL_law_351 : decode cL_law 351 = .ok (.i2l, 1) := by decide +kernel
theorem dL_law_352 : decode cL_law 352 = .ok (.lcmp, 1) := by decide +kernel
theorem dL_law_353 : decode cL_law 353 = .ok (.ifCond .eq 5, 3) := by decide +kernel
theorem dL_law_356 : decode cL_law 356 = .ok (.iconst 0, 1) := by decide +kernel
theorem dL_law_357 : decode cL_law 357 = .ok (.ireturn, 1) := by decide +kernel
theorem dL_law_358 : decode cL_law 358 = .ok (.goto 1457, 3) := by decide +kernel
theorem dL_law_361 : decode cL_law 361 = .ok (.aload_n 1, 1) := by decide +kernel
theorem dL_law_362 : decode cL_law 362 = .ok (.aload_n 0, 1) := by decide +kernel
theorem dL_law_363 : decode cL_law 363 = .ok (.iload 5, 2) := by decide +kernel
theorem dL_law_365 : decode cL_law 365 = .ok (.iconst 1, 1) := by decide +kernel
theorem dL_law_366 : decode cL_law 366 = .ok (.iadd, 1) := by decide +kernel
theorem dL_law_367 : decode cL_law 367 = .ok (.iaload, 1) := by decide +kernel
theorem dL_law_368 : decode cL_law 368 = .ok (.aload_n 3, 1) := by decide +kernel
theorem dL_law_369 : decode cL_law 369 = .ok (.invokestatic 111, 3) := by decide +kernel
theorem dL_law_372 : decode cL_law 372 = .ok (.istore 6, 2) := by decide +kernel
theorem dL_law_374 : decode cL_law 374 = .ok (.aload_n 2, 1) := by decide +kernel
theorem dL_law_375 : decode cL_law 375 = .ok (.aload_n 0, 1) := by decide +kernel
theorem dL_law_376 : decode cL_law 376 = .ok (.iload 5, 2) := by decide +kernel
theorem dL_law_378 : decode cL_law 378 = .ok (.iconst 1, 1) := by decide +kernel
theorem dL_law_379 : decode cL_law 379 = .ok (.iadd, 1) := by decide +kernel
theorem dL_law_380 : decode cL_law 380 = .ok (.iaload, 1) := by decide +kernel
theorem dL_law_381 : decode cL_law 381 = .ok (.invokevirtual 113, 3) := by decide +kernel
theorem dL_law_384 : decode cL_law 384 = .ok (.istore 7, 2) := by decide +kernel
theorem dL_law_386 : decode cL_law 386 = .ok (.aload_n 2, 1) := by decide +kernel
theorem dL_law_387 : decode cL_law 387 = .ok (.invokevirtual 101, 3) := by decide +kernel
theorem dL_law_390 : decode cL_law 390 = .ok (.iload 6, 2) := by decide +kernel
theorem dL_law_392 : decode cL_law 392 = .ok (.if_icmp .eq 5, 3) := by decide +kernel
theorem dL_law_395 : decode cL_law 395 = .ok (.iconst 0, 1) := by decide +kernel
theorem dL_law_396 : decode cL_law 396 = .ok (.ireturn, 1) := by decide +kernel
theorem dL_law_397 : decode cL_law 397 = .ok (.iload 6, 2) := by decide +kernel
theorem dL_law_399 : decode cL_law 399 = .ok (.ifCond .ne 15, 3) := by decide +kernel
theorem dL_law_402 : decode cL_law 402 = .ok (.aload_n 3, 1) := by decide +kernel
theorem dL_law_403 : decode cL_law 403 = .ok (.iconst 0, 1) := by decide +kernel
theorem dL_law_404 : decode cL_law 404 = .ok (.laload, 1) := by decide +kernel
theorem dL_law_405 : decode cL_law 405 = .ok (.iload 7, 2) := by decide +kernel
theorem dL_law_407 : decode cL_law 407 = .ok (.i2l, 1) := by decide +kernel
theorem dL_law_408 : decode cL_law 408 = .ok (.lcmp, 1) := by decide +kernel
theorem dL_law_409 : decode cL_law 409 = .ok (.ifCond .eq 5, 3) := by decide +kernel
theorem dL_law_412 : decode cL_law 412 = .ok (.iconst 0, 1) := by decide +kernel
theorem dL_law_413 : decode cL_law 413 = .ok (.ireturn, 1) := by decide +kernel
theorem dL_law_414 : decode cL_law 414 = .ok (.goto 1401, 3) := by decide +kernel
theorem dL_law_417 : decode cL_law 417 = .ok (.aload_n 1, 1) := by decide +kernel
theorem dL_law_418 : decode cL_law 418 = .ok (.aload_n 0, 1) := by decide +kernel
theorem dL_law_419 : decode cL_law 419 = .ok (.iload 5, 2) := by decide +kernel
theorem dL_law_421 : decode cL_law 421 = .ok (.iconst 1, 1) := by decide +kernel
theorem dL_law_422 : decode cL_law 422 = .ok (.iadd, 1) := by decide +kernel
theorem dL_law_423 : decode cL_law 423 = .ok (.iaload, 1) := by decide +kernel
theorem dL_law_424 : decode cL_law 424 = .ok (.ifCond .eq 7, 3) := by decide +kernel
theorem dL_law_427 : decode cL_law 427 = .ok (.iconst 1, 1) := by decide +kernel
theorem dL_law_428 : decode cL_law 428 = .ok (.goto 4, 3) := by decide +kernel
theorem dL_law_431 : decode cL_law 431 = .ok (.iconst 0, 1) := by decide +kernel
theorem dL_law_432 : decode cL_law 432 = .ok (.invokevirtual 114, 3) := by decide +kernel
theorem dL_law_435 : decode cL_law 435 = .ok (.aload_n 2, 1) := by decide +kernel
theorem dL_law_436 : decode cL_law 436 = .ok (.aload_n 0, 1) := by decide +kernel
theorem dL_law_437 : decode cL_law 437 = .ok (.iload 5, 2) := by decide +kernel
theorem dL_law_439 : decode cL_law 439 = .ok (.iconst 1, 1) := by decide +kernel
theorem dL_law_440 : decode cL_law 440 = .ok (.iadd, 1) := by decide +kernel
theorem dL_law_441 : decode cL_law 441 = .ok (.iaload, 1) := by decide +kernel
theorem dL_law_442 : decode cL_law 442 = .ok (.ifCond .eq 7, 3) := by decide +kernel
theorem dL_law_445 : decode cL_law 445 = .ok (.iconst 1, 1) := by decide +kernel
theorem dL_law_446 : decode cL_law 446 = .ok (.goto 4, 3) := by decide +kernel
theorem dL_law_449 : decode cL_law 449 = .ok (.iconst 0, 1) := by decide +kernel
theorem dL_law_450 : decode cL_law 450 = .ok (.invokevirtual 118, 3) := by decide +kernel
theorem dL_law_453 : decode cL_law 453 = .ok (.if_icmp .eq 1362, 3) := by decide +kernel
theorem dL_law_456 : decode cL_law 456 = .ok (.iconst 0, 1) := by decide +kernel
theorem dL_law_457 : decode cL_law 457 = .ok (.ireturn, 1) := by decide +kernel
theorem dL_law_458 : decode cL_law 458 = .ok (.aload_n 1, 1) := by decide +kernel
theorem dL_law_459 : decode cL_law 459 = .ok (.aload_n 0, 1) := by decide +kernel
theorem dL_law_460 : decode cL_law 460 = .ok (.iload 5, 2) := by decide +kernel
theorem dL_law_462 : decode cL_law 462 = .ok (.iconst 1, 1) := by decide +kernel
theorem dL_law_463 : decode cL_law 463 = .ok (.iadd, 1) := by decide +kernel
theorem dL_law_464 : decode cL_law 464 = .ok (.iaload, 1) := by decide +kernel
theorem dL_law_465 : decode cL_law 465 = .ok (.aload_n 0, 1) := by decide +kernel
theorem dL_law_466 : decode cL_law 466 = .ok (.iload 5, 2) := by decide +kernel
theorem dL_law_468 : decode cL_law 468 = .ok (.iconst 2, 1) := by decide +kernel
theorem dL_law_469 : decode cL_law 469 = .ok (.iadd, 1) := by decide +kernel
theorem dL_law_470 : decode cL_law 470 = .ok (.iaload, 1) := by decide +kernel
theorem dL_law_471 : decode cL_law 471 = .ok (.aload_n 3, 1) := by decide +kernel
theorem dL_law_472 : decode cL_law 472 = .ok (.invokestatic 119, 3) := by decide +kernel
theorem dL_law_475 : decode cL_law 475 = .ok (.istore 6, 2) := by decide +kernel
theorem dL_law_477 : decode cL_law 477 = .ok (.aload_n 2, 1) := by decide +kernel
theorem dL_law_478 : decode cL_law 478 = .ok (.aload_n 0, 1) := by decide +kernel
theorem dL_law_479 : decode cL_law 479 = .ok (.iload 5, 2) := by decide +kernel
theorem dL_law_481 : decode cL_law 481 = .ok (.iconst 1, 1) := by decide +kernel
theorem dL_law_482 : decode cL_law 482 = .ok (.iadd, 1) := by decide +kernel
theorem dL_law_483 : decode cL_law 483 = .ok (.iaload, 1) := by decide +kernel
theorem dL_law_484 : decode cL_law 484 = .ok (.aload_n 0, 1) := by decide +kernel
theorem dL_law_485 : decode cL_law 485 = .ok (.iload 5, 2) := by decide +kernel
theorem dL_law_487 : decode cL_law 487 = .ok (.iconst 2, 1) := by decide +kernel
theorem dL_law_488 : decode cL_law 488 = .ok (.iadd, 1) := by decide +kernel
theorem dL_law_489 : decode cL_law 489 = .ok (.iaload, 1) := by decide +kernel
theorem dL_law_490 : decode cL_law 490 = .ok (.invokevirtual 122, 3) := by decide +kernel
theorem dL_law_493 : decode cL_law 493 = .ok (.istore 7, 2) := by decide +kernel
theorem dL_law_495 : decode cL_law 495 = .ok (.aload_n 2, 1) := by decide +kernel
theorem dL_law_496 : decode cL_law 496 = .ok (.invokevirtual 101, 3) := by decide +kernel
theorem dL_law_499 : decode cL_law 499 = .ok (.iload 6, 2) := by decide +kernel
theorem dL_law_501 : decode cL_law 501 = .ok (.if_icmp .eq 5, 3) := by decide +kernel
theorem dL_law_504 : decode cL_law 504 = .ok (.iconst 0, 1) := by decide +kernel
theorem dL_law_505 : decode cL_law 505 = .ok (.ireturn, 1) := by decide +kernel
theorem dL_law_506 : decode cL_law 506 = .ok (.iload 6, 2) := by decide +kernel
theorem dL_law_508 : decode cL_law 508 = .ok (.ifCond .ne 22, 3) := by decide +kernel
theorem dL_law_511 : decode cL_law 511 = .ok (.aload_n 3, 1) := by decide +kernel
theorem dL_law_512 : decode cL_law 512 = .ok (.iconst 0, 1) := by decide +kernel
theorem dL_law_513 : decode cL_law 513 = .ok (.laload, 1) := by decide +kernel
theorem dL_law_514 : decode cL_law 514 = .ok (.iload 7, 2) := by decide +kernel
theorem dL_law_516 : decode cL_law 516 = .ok (.ifCond .eq 7, 3) := by decide +kernel
theorem dL_law_519 : decode cL_law 519 = .ok (.lconst 1, 1) := by decide +kernel
theorem dL_law_520 : decode cL_law 520 = .ok (.goto 4, 3) := by decide +kernel
theorem dL_law_523 : decode cL_law 523 = .ok (.lconst 0, 1) := by decide +kernel
theorem dL_law_524 : decode cL_law 524 = .ok (.lcmp, 1) := by decide +kernel
theorem dL_law_525 : decode cL_law 525 = .ok (.ifCond .eq 5, 3) := by decide +kernel
theorem dL_law_528 : decode cL_law 528 = .ok (.iconst 0, 1) := by decide +kernel
theorem dL_law_529 : decode cL_law 529 = .ok (.ireturn, 1) := by decide +kernel
theorem dL_law_530 : decode cL_law 530 = .ok (.goto 1285, 3) := by decide +kernel
theorem dL_law_533 : decode cL_law 533 = .ok (.aload_n 1, 1) := by decide +kernel
theorem dL_law_534 : decode cL_law 534 = .ok (.aload_n 0, 1) := by decide +kernel
theorem dL_law_535 : decode cL_law 535 = .ok (.iload 5, 2) := by decide +kernel
theorem dL_law_537 : decode cL_law 537 = .ok (.iconst 1, 1) := by decide +kernel
theorem dL_law_538 : decode cL_law 538 = .ok (.iadd, 1) := by decide +kernel
theorem dL_law_539 : decode cL_law 539 = .ok (.iaload, 1) := by decide +kernel
theorem dL_law_540 : decode cL_law 540 = .ok (.ifCond .eq 7, 3) := by decide +kernel
theorem dL_law_543 : decode cL_law 543 = .ok (.iconst 1, 1) := by decide +kernel
theorem dL_law_544 : decode cL_law 544 = .ok (.goto 4, 3) := by decide +kernel
theorem dL_law_547 : decode cL_law 547 = .ok (.iconst 0, 1) := by decide +kernel
theorem dL_law_548 : decode cL_law 548 = .ok (.invokevirtual 123, 3) := by decide +kernel
theorem dL_law_551 : decode cL_law 551 = .ok (.aload_n 2, 1) := by decide +kernel
theorem dL_law_552 : decode cL_law 552 = .ok (.aload_n 0, 1) := by decide +kernel
theorem dL_law_553 : decode cL_law 553 = .ok (.iload 5, 2) := by decide +kernel
theorem dL_law_555 : decode cL_law 555 = .ok (.iconst 1, 1) := by decide +kernel
theorem dL_law_556 : decode cL_law 556 = .ok (.iadd, 1) := by decide +kernel
theorem dL_law_557 : decode cL_law 557 = .ok (.iaload, 1) := by decide +kernel
theorem dL_law_558 : decode cL_law 558 = .ok (.ifCond .eq 7, 3) := by decide +kernel
theorem dL_law_561 : decode cL_law 561 = .ok (.iconst 1, 1) := by decide +kernel
theorem dL_law_562 : decode cL_law 562 = .ok (.goto 4, 3) := by decide +kernel
theorem dL_law_565 : decode cL_law 565 = .ok (.iconst 0, 1) := by decide +kernel
theorem dL_law_566 : decode cL_law 566 = .ok (.invokevirtual 126, 3) := by decide +kernel
theorem dL_law_569 : decode cL_law 569 = .ok (.if_icmp .eq 1246, 3) := by decide +kernel
theorem dL_law_572 : decode cL_law 572 = .ok (.iconst 0, 1) := by decide +kernel
theorem dL_law_573 : decode cL_law 573 = .ok (.ireturn, 1) := by decide +kernel
theorem dL_law_574 : decode cL_law 574 = .ok (.aload_n 1, 1) := by decide +kernel
theorem dL_law_575 : decode cL_law 575 = .ok (.invokevirtual 127, 3) := by decide +kernel
theorem dL_law_578 : decode cL_law 578 = .ok (.aload_n 2, 1) := by decide +kernel
theorem dL_law_579 : decode cL_law 579 = .ok (.invokevirtual 130, 3) := by decide +kernel
theorem dL_law_582 : decode cL_law 582 = .ok (.if_icmp .eq 1233, 3) := by decide +kernel
theorem dL_law_585 : decode cL_law 585 = .ok (.iconst 0, 1) := by decide +kernel
theorem dL_law_586 : decode cL_law 586 = .ok (.ireturn, 1) := by decide +kernel
theorem dL_law_587 : decode cL_law 587 = .ok (.aload_n 1, 1) := by decide +kernel
theorem dL_law_588 : decode cL_law 588 = .ok (.aload_n 3, 1) := by decide +kernel
theorem dL_law_589 : decode cL_law 589 = .ok (.invokestatic 131, 3) := by decide +kernel
theorem dL_law_592 : decode cL_law 592 = .ok (.istore 6, 2) := by decide +kernel
theorem dL_law_594 : decode cL_law 594 = .ok (.aload_n 2, 1) := by decide +kernel
theorem dL_law_595 : decode cL_law 595 = .ok (.invokevirtual 134, 3) := by decide +kernel
theorem dL_law_598 : decode cL_law 598 = .ok (.istore 7, 2) := by decide +kernel
theorem dL_law_600 : decode cL_law 600 = .ok (.aload_n 2, 1) := by decide +kernel
theorem dL_law_601 : decode cL_law 601 = .ok (.invokevirtual 101, 3) := by decide +kernel
theorem dL_law_604 : decode cL_law 604 = .ok (.iload 6, 2) := by decide +kernel
theorem dL_law_606 : decode cL_law 606 = .ok (.if_icmp .eq 5, 3) := by decide +kernel
theorem dL_law_609 : decode cL_law 609 = .ok (.iconst 0, 1) := by decide +kernel
theorem dL_law_610 : decode cL_law 610 = .ok (.ireturn, 1) := by decide +kernel
theorem dL_law_611 : decode cL_law 611 = .ok (.iload 6, 2) := by decide +kernel
theorem dL_law_613 : decode cL_law 613 = .ok (.ifCond .ne 15, 3) := by decide +kernel
theorem dL_law_616 : decode cL_law 616 = .ok (.aload_n 3, 1) := by decide +kernel
theorem dL_law_617 : decode cL_law 617 = .ok (.iconst 0, 1) := by decide +kernel
theorem dL_law_618 : decode cL_law 618 = .ok (.laload, 1) := by decide +kernel
theorem dL_law_619 : decode cL_law 619 = .ok (.iload 7, 2) := by decide +kernel
theorem dL_law_621 : decode cL_law 621 = .ok (.i2l, 1) := by decide +kernel
theorem dL_law_622 : decode cL_law 622 = .ok (.lcmp, 1) := by decide +kernel
theorem dL_law_623 : decode cL_law 623 = .ok (.ifCond .eq 5, 3) := by decide +kernel
theorem dL_law_626 : decode cL_law 626 = .ok (.iconst 0, 1) := by decide +kernel
theorem dL_law_627 : decode cL_law 627 = .ok (.ireturn, 1) := by decide +kernel
theorem dL_law_628 : decode cL_law 628 = .ok (.goto 1187, 3) := by decide +kernel
theorem dL_law_631 : decode cL_law 631 = .ok (.aload_n 1, 1) := by decide +kernel
theorem dL_law_632 : decode cL_law 632 = .ok (.aload_n 0, 1) := by decide +kernel
theorem dL_law_633 : decode cL_law 633 = .ok (.iload 5, 2) := by decide +kernel
theorem dL_law_635 : decode cL_law 635 = .ok (.iconst 1, 1) := by decide +kernel
theorem dL_law_636 : decode cL_law 636 = .ok (.iadd, 1) := by decide +kernel
theorem dL_law_637 : decode cL_law 637 = .ok (.iaload, 1) := by decide +kernel
theorem dL_law_638 : decode cL_law 638 = .ok (.aload_n 0, 1) := by decide +kernel
theorem dL_law_639 : decode cL_law 639 = .ok (.iload 5, 2) := by decide +kernel
theorem dL_law_641 : decode cL_law 641 = .ok (.iconst 2, 1) := by decide +kernel
theorem dL_law_642 : decode cL_law 642 = .ok (.iadd, 1) := by decide +kernel
theorem dL_law_643 : decode cL_law 643 = .ok (.iaload, 1) := by decide +kernel
theorem dL_law_644 : decode cL_law 644 = .ok (.aload_n 0, 1) := by decide +kernel
theorem dL_law_645 : decode cL_law 645 = .ok (.iload 5, 2) := by decide +kernel
theorem dL_law_647 : decode cL_law 647 = .ok (.iconst 3, 1) := by decide +kernel
theorem dL_law_648 : decode cL_law 648 = .ok (.iadd, 1) := by decide +kernel
theorem dL_law_649 : decode cL_law 649 = .ok (.iaload, 1) := by decide +kernel
theorem dL_law_650 : decode cL_law 650 = .ok (.aload_n 0, 1) := by decide +kernel
theorem dL_law_651 : decode cL_law 651 = .ok (.iload 5, 2) := by decide +kernel
theorem dL_law_653 : decode cL_law 653 = .ok (.iconst 4, 1) := by decide +kernel
theorem dL_law_654 : decode cL_law 654 = .ok (.iadd, 1) := by decide +kernel
theorem dL_law_655 : decode cL_law 655 = .ok (.iaload, 1) := by decide +kernel
theorem dL_law_656 : decode cL_law 656 = .ok (.aload_n 3, 1) := by decide +kernel
theorem dL_law_657 : decode cL_law 657 = .ok (.invokestatic 135, 3) := by decide +kernel
theorem dL_law_660 : decode cL_law 660 = .ok (.istore 6, 2) := by decide +kernel
theorem dL_law_662 : decode cL_law 662 = .ok (.aload_n 2, 1) := by decide +kernel
theorem dL_law_663 : decode cL_law 663 = .ok (.aload_n 0, 1) := by decide +kernel
theorem dL_law_664 : decode cL_law 664 = .ok (.iload 5, 2) := by decide +kernel
theorem dL_law_666 : decode cL_law 666 = .ok (.iconst 1, 1) := by decide +kernel
theorem dL_law_667 : decode cL_law 667 = .ok (.iadd, 1) := by decide +kernel
theorem dL_law_668 : decode cL_law 668 = .ok (.iaload, 1) := by decide +kernel
theorem dL_law_669 : decode cL_law 669 = .ok (.aload_n 0, 1) := by decide +kernel
theorem dL_law_670 : decode cL_law 670 = .ok (.iload 5, 2) := by decide +kernel
theorem dL_law_672 : decode cL_law 672 = .ok (.iconst 2, 1) := by decide +kernel
theorem dL_law_673 : decode cL_law 673 = .ok (.iadd, 1) := by decide +kernel
theorem dL_law_674 : decode cL_law 674 = .ok (.iaload, 1) := by decide +kernel
theorem dL_law_675 : decode cL_law 675 = .ok (.aload_n 0, 1) := by decide +kernel
theorem dL_law_676 : decode cL_law 676 = .ok (.iload 5, 2) := by decide +kernel
theorem dL_law_678 : decode cL_law 678 = .ok (.iconst 3, 1) := by decide +kernel
theorem dL_law_679 : decode cL_law 679 = .ok (.iadd, 1) := by decide +kernel
theorem dL_law_680 : decode cL_law 680 = .ok (.iaload, 1) := by decide +kernel
theorem dL_law_681 : decode cL_law 681 = .ok (.aload_n 0, 1) := by decide +kernel
theorem dL_law_682 : decode cL_law 682 = .ok (.iload 5, 2) := by decide +kernel
theorem dL_law_684 : decode cL_law 684 = .ok (.iconst 4, 1) := by decide +kernel
theorem dL_law_685 : decode cL_law 685 = .ok (.iadd, 1) := by decide +kernel
theorem dL_law_686 : decode cL_law 686 = .ok (.iaload, 1) := by decide +kernel
theorem dL_law_687 : decode cL_law 687 = .ok (.invokevirtual 138, 3) := by decide +kernel
theorem dL_law_690 : decode cL_law 690 = .ok (.istore 7, 2) := by decide +kernel
theorem dL_law_692 : decode cL_law 692 = .ok (.aload_n 2, 1) := by decide +kernel
theorem dL_law_693 : decode cL_law 693 = .ok (.invokevirtual 101, 3) := by decide +kernel
theorem dL_law_696 : decode cL_law 696 = .ok (.iload 6, 2) := by decide +kernel
theorem dL_law_698 : decode cL_law 698 = .ok (.if_icmp .eq 5, 3) := by decide +kernel
theorem dL_law_701 : decode cL_law 701 = .ok (.iconst 0, 1) := by decide +kernel
theorem dL_law_702 : decode cL_law 702 = .ok (.ireturn, 1) := by decide +kernel
theorem dL_law_703 : decode cL_law 703 = .ok (.iload 6, 2) := by decide +kernel
theorem dL_law_705 : decode cL_law 705 = .ok (.ifCond .ne 15, 3) := by decide +kernel
theorem dL_law_708 : decode cL_law 708 = .ok (.aload_n 3, 1) := by decide +kernel
theorem dL_law_709 : decode cL_law 709 = .ok (.iconst 0, 1) := by decide +kernel
theorem dL_law_710 : decode cL_law 710 = .ok (.laload, 1) := by decide +kernel
theorem dL_law_711 : decode cL_law 711 = .ok (.iload 7, 2) := by decide +kernel
theorem dL_law_713 : decode cL_law 713 = .ok (.i2l, 1) := by decide +kernel
theorem dL_law_714 : decode cL_law 714 = .ok (.lcmp, 1) := by decide +kernel
theorem dL_law_715 : decode cL_law 715 = .ok (.ifCond .eq 5, 3) := by decide +kernel
theorem dL_law_718 : decode cL_law 718 = .ok (.iconst 0, 1) := by decide +kernel
theorem dL_law_719 : decode cL_law 719 = .ok (.ireturn, 1) := by decide +kernel
theorem dL_law_720 : decode cL_law 720 = .ok (.goto 1095, 3) := by decide +kernel
theorem dL_law_723 : decode cL_law 723 = .ok (.aload_n 1, 1) := by decide +kernel
theorem dL_law_724 : decode cL_law 724 = .ok (.aload_n 0, 1) := by decide +kernel
theorem dL_law_725 : decode cL_law 725 = .ok (.iload 5, 2) := by decide +kernel
theorem dL_law_727 : decode cL_law 727 = .ok (.iconst 1, 1) := by decide +kernel
theorem dL_law_728 : decode cL_law 728 = .ok (.iadd, 1) := by decide +kernel
theorem dL_law_729 : decode cL_law 729 = .ok (.iaload, 1) := by decide +kernel
theorem dL_law_730 : decode cL_law 730 = .ok (.aload_n 0, 1) := by decide +kernel
theorem dL_law_731 : decode cL_law 731 = .ok (.iload 5, 2) := by decide +kernel
theorem dL_law_733 : decode cL_law 733 = .ok (.iconst 2, 1) := by decide +kernel
theorem dL_law_734 : decode cL_law 734 = .ok (.iadd, 1) := by decide +kernel
theorem dL_law_735 : decode cL_law 735 = .ok (.iaload, 1) := by decide +kernel
theorem dL_law_736 : decode cL_law 736 = .ok (.aload_n 3, 1) := by decide +kernel
theorem dL_law_737 : decode cL_law 737 = .ok (.invokestatic 139, 3) := by decide +kernel
theorem dL_law_740 : decode cL_law 740 = .ok (.istore 6, 2) := by decide +kernel
theorem dL_law_742 : decode cL_law 742 = .ok (.aload_n 2, 1) := by decide +kernel
theorem dL_law_743 : decode cL_law 743 = .ok (.aload_n 0, 1) := by decide +kernel
theorem dL_law_744 : decode cL_law 744 = .ok (.iload 5, 2) := by decide +kernel
theorem dL_law_746 : decode cL_law 746 = .ok (.iconst 1, 1) := by decide +kernel
theorem dL_law_747 : decode cL_law 747 = .ok (.iadd, 1) := by decide +kernel
theorem dL_law_748 : decode cL_law 748 = .ok (.iaload, 1) := by decide +kernel
theorem dL_law_749 : decode cL_law 749 = .ok (.aload_n 0, 1) := by decide +kernel
theorem dL_law_750 : decode cL_law 750 = .ok (.iload 5, 2) := by decide +kernel
theorem dL_law_752 : decode cL_law 752 = .ok (.iconst 2, 1) := by decide +kernel
theorem dL_law_753 : decode cL_law 753 = .ok (.iadd, 1) := by decide +kernel
theorem dL_law_754 : decode cL_law 754 = .ok (.iaload, 1) := by decide +kernel
theorem dL_law_755 : decode cL_law 755 = .ok (.invokevirtual 141, 3) := by decide +kernel
theorem dL_law_758 : decode cL_law 758 = .ok (.istore 7, 2) := by decide +kernel
theorem dL_law_760 : decode cL_law 760 = .ok (.aload_n 2, 1) := by decide +kernel
theorem dL_law_761 : decode cL_law 761 = .ok (.invokevirtual 101, 3) := by decide +kernel
theorem dL_law_764 : decode cL_law 764 = .ok (.iload 6, 2) := by decide +kernel
theorem dL_law_766 : decode cL_law 766 = .ok (.if_icmp .eq 5, 3) := by decide +kernel
theorem dL_law_769 : decode cL_law 769 = .ok (.iconst 0, 1) := by decide +kernel
theorem dL_law_770 : decode cL_law 770 = .ok (.ireturn, 1) := by decide +kernel
theorem dL_law_771 : decode cL_law 771 = .ok (.iload 6, 2) := by decide +kernel
theorem dL_law_773 : decode cL_law 773 = .ok (.ifCond .ne 15, 3) := by decide +kernel
theorem dL_law_776 : decode cL_law 776 = .ok (.aload_n 3, 1) := by decide +kernel
theorem dL_law_777 : decode cL_law 777 = .ok (.iconst 0, 1) := by decide +kernel
theorem dL_law_778 : decode cL_law 778 = .ok (.laload, 1) := by decide +kernel
theorem dL_law_779 : decode cL_law 779 = .ok (.iload 7, 2) := by decide +kernel
theorem dL_law_781 : decode cL_law 781 = .ok (.i2l, 1) := by decide +kernel
theorem dL_law_782 : decode cL_law 782 = .ok (.lcmp, 1) := by decide +kernel
theorem dL_law_783 : decode cL_law 783 = .ok (.ifCond .eq 5, 3) := by decide +kernel
theorem dL_law_786 : decode cL_law 786 = .ok (.iconst 0, 1) := by decide +kernel
theorem dL_law_787 : decode cL_law 787 = .ok (.ireturn, 1) := by decide +kernel
theorem dL_law_788 : decode cL_law 788 = .ok (.goto 1027, 3) := by decide +kernel
theorem dL_law_791 : decode cL_law 791 = .ok (.aload_n 1, 1) := by decide +kernel
theorem dL_law_792 : decode cL_law 792 = .ok (.aload_n 0, 1) := by decide +kernel
theorem dL_law_793 : decode cL_law 793 = .ok (.iload 5, 2) := by decide +kernel
theorem dL_law_795 : decode cL_law 795 = .ok (.iconst 1, 1) := by decide +kernel
theorem dL_law_796 : decode cL_law 796 = .ok (.iadd, 1) := by decide +kernel
theorem dL_law_797 : decode cL_law 797 = .ok (.iaload, 1) := by decide +kernel
theorem dL_law_798 : decode cL_law 798 = .ok (.aload_n 3, 1) := by decide +kernel
theorem dL_law_799 : decode cL_law 799 = .ok (.invokestatic 142, 3) := by decide +kernel
theorem dL_law_802 : decode cL_law 802 = .ok (.istore 6, 2) := by decide +kernel
theorem dL_law_804 : decode cL_law 804 = .ok (.aload_n 2, 1) := by decide +kernel
theorem dL_law_805 : decode cL_law 805 = .ok (.aload_n 0, 1) := by decide +kernel
theorem dL_law_806 : decode cL_law 806 = .ok (.iload 5, 2) := by decide +kernel
theorem dL_law_808 : decode cL_law 808 = .ok (.iconst 1, 1) := by decide +kernel
theorem dL_law_809 : decode cL_law 809 = .ok (.iadd, 1) := by decide +kernel
theorem dL_law_810 : decode cL_law 810 = .ok (.iaload, 1) := by decide +kernel
theorem dL_law_811 : decode cL_law 811 = .ok (.invokevirtual 144, 3) := by decide +kernel
theorem dL_law_814 : decode cL_law 814 = .ok (.istore 7, 2) := by decide +kernel
theorem dL_law_816 : decode cL_law 816 = .ok (.aload_n 2, 1) := by decide +kernel
theorem dL_law_817 : decode cL_law 817 = .ok (.invokevirtual 101, 3) := by decide +kernel
theorem dL_law_820 : decode cL_law 820 = .ok (.iload 6, 2) := by decide +kernel
theorem dL_law_822 : decode cL_law 822 = .ok (.if_icmp .eq 5, 3) := by decide +kernel
theorem dL_law_825 : decode cL_law 825 = .ok (.iconst 0, 1) := by decide +kernel
theorem dL_law_826 : decode cL_law 826 = .ok (.ireturn, 1) := by decide +kernel
theorem dL_law_827 : decode cL_law 827 = .ok (.iload 6, 2) := by decide +kernel
theorem dL_law_829 : decode cL_law 829 = .ok (.ifCond .ne 15, 3) := by decide +kernel
theorem dL_law_832 : decode cL_law 832 = .ok (.aload_n 3, 1) := by decide +kernel
theorem dL_law_833 : decode cL_law 833 = .ok (.iconst 0, 1) := by decide +kernel
theorem dL_law_834 : decode cL_law 834 = .ok (.laload, 1) := by decide +kernel
theorem dL_law_835 : decode cL_law 835 = .ok (.iload 7, 2) := by decide +kernel
theorem dL_law_837 : decode cL_law 837 = .ok (.i2l, 1) := by decide +kernel
theorem dL_law_838 : decode cL_law 838 = .ok (.lcmp, 1) := by decide +kernel
theorem dL_law_839 : decode cL_law 839 = .ok (.ifCond .eq 5, 3) := by decide +kernel
theorem dL_law_842 : decode cL_law 842 = .ok (.iconst 0, 1) := by decide +kernel
theorem dL_law_843 : decode cL_law 843 = .ok (.ireturn, 1) := by decide +kernel
theorem dL_law_844 : decode cL_law 844 = .ok (.goto 971, 3) := by decide +kernel
theorem dL_law_847 : decode cL_law 847 = .ok (.aload_n 1, 1) := by decide +kernel
theorem dL_law_848 : decode cL_law 848 = .ok (.aload_n 0, 1) := by decide +kernel
theorem dL_law_849 : decode cL_law 849 = .ok (.iload 5, 2) := by decide +kernel
theorem dL_law_851 : decode cL_law 851 = .ok (.iconst 1, 1) := by decide +kernel
theorem dL_law_852 : decode cL_law 852 = .ok (.iadd, 1) := by decide +kernel
theorem dL_law_853 : decode cL_law 853 = .ok (.iaload, 1) := by decide +kernel
theorem dL_law_854 : decode cL_law 854 = .ok (.aload_n 3, 1) := by decide +kernel
theorem dL_law_855 : decode cL_law 855 = .ok (.invokestatic 145, 3) := by decide +kernel
theorem dL_law_858 : decode cL_law 858 = .ok (.istore 6, 2) := by decide +kernel
theorem dL_law_860 : decode cL_law 860 = .ok (.aload_n 2, 1) := by decide +kernel
theorem dL_law_861 : decode cL_law 861 = .ok (.aload_n 0, 1) := by decide +kernel
theorem dL_law_862 : decode cL_law 862 = .ok (.iload 5, 2) := by decide +kernel
theorem dL_law_864 : decode cL_law 864 = .ok (.iconst 1, 1) := by decide +kernel
