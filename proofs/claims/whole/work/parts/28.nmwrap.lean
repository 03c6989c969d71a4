theorem dL_ofOwner_9 : decode cL_ofOwner 9 = .ok (.lastore, 1) := by decide +kernel
theorem dL_ofOwner_10 : decode cL_ofOwner 10 = .ok (.goto 7, 3) := by decide +kernel
theorem dL_ofOwner_13 : decode cL_ofOwner 13 = .ok (.astore 4, 2) := by decide +kernel
theorem dL_ofOwner_15 : decode cL_ofOwner 15 = .ok (.iconst 1, 1) := by decide +kernel
theorem dL_ofOwner_16 : decode cL_ofOwner 16 = .ok (.ireturn, 1) := by decide +kernel
theorem dL_ofOwner_17 : decode cL_ofOwner 17 = .ok (.iconst 0, 1) := by decide +kernel
theorem dL_ofOwner_18 : decode cL_ofOwner 18 = .ok (.ireturn, 1) := by decide +kernel
set_option maxRecDepth 20000 in
theorem ggL_wouldLevel_X5_wouldLevel : GoodIn wsL_wouldLevel wsX5_wouldLevel := goodIn_ca (goodIn_r _ [6, 7, 8, 9, 10, 11, 12, 13, 14, 5, 15, 16, 17, 18, 19, 20, 21, 22, 23, 24, 25, 26, 27, 28, 29, 30, 31, 32, 33, 34, 35, 36, 37, 38, 39, 40, 41, 42, 43, 44, 45, 46, 47, 48, 49, 50, 51, 52, 53, 54, 55, 56, 57, 58, 59, 60, 61, 62, 63, 64, 65, 66, 67, 68, 69, 70, 71, 72, 73, 74, 75, 76, 77, 78, 79, 80, 81, 82, 83, 84, 85, 86, 87, 88, 89, 90, 91, 92, 93, 94, 95, 96, 97, 98, 99, 100, 101, 102, 103, 104, 105, 106, 107, 108, 109, 110, 111, 112, 113, 114, 115, 116, 117, 118, 119, 120, 121, 122, 123, 124, 125, 126, 127, 128, 129, 130, 131, 132, 133, 134, 135, 136, 137, 138, 139, 140, 141, 142, 143, 144, 145, 146, 147, 148, 149, 150, 151, 152, 153, 154, 155, 156, 157, 158, 159, 160, 161, 162, 163, 164, 165, 166, 167, 168, 169, 170, 171, 172, 173, 174, 175, 176, 177, 178, 179, 180, 181, 182, 183, 184, 185, 186, 187, 188, 189, 190, 191, 192, 193, 194, 195, 196, 197, 198, 199, 200, 201, 202, 203, 204, 205, 206, 207, 208, 209, 210, 211, 212, 213, 214, 215, 216, 217, 218, 219, 220, 221, 222, 223, 224, 225, 226, 227, 228, 229, 230] (by decide +kernel) (by decide +kernel)) (goodIn_sub (fun _ h => List.mem_cons_of_mem _ (List.mem_append_right _ h)) (by decide +kernel))
set_option maxRecDepth 20000 in
theorem gL_wouldLevel_X5_wouldLevel : GoodIn wsL_wouldLevel (wsV RL 82 RX5 yX5_wouldLevel wsX5_wouldLevel) := goodIn_app (goodIn_of _ (by decide +kernel)) ggL_wouldLevel_X5_wouldLevel
theorem dL_wouldLevel_0 : decode cL_wouldLevel 0 = .ok (.aload_n 2, 1) := by decide +kernel
theorem dL_wouldLevel_1 : decode cL_wouldLevel 1 = .ok (.iconst 0, 1) := by decide +kernel
theorem dL_wouldLevel_2 : decode cL_wouldLevel 2 = .ok (.aload_n 0, 1) := by decide +kernel
theorem dL_wouldLevel_3 : decode cL_wouldLevel 3 = .ok (.iload_n 1, 1) := by decide +kernel
theorem dL_wouldLevel_4 : decode cL_wouldLevel 4 = .ok (.invokevirtual 82, 3) := by decide +kernel
theorem dL_wouldLevel_7 : decode cL_wouldLevel 7 = .ok (.dastore, 1) := by decide +kernel
theorem dL_wouldLevel_8 : decode cL_wouldLevel 8 = .ok (.goto 6, 3) := by decide +kernel
theorem dL_wouldLevel_11 : decode cL_wouldLevel 11 = .ok (.astore_n 3, 1) := by decide +kernel
theorem dL_wouldLevel_12 : decode cL_wouldLevel 12 = .ok (.iconst 1, 1) := by decide +kernel
theorem dL_wouldLevel_13 : decode cL_wouldLevel 13 = .ok (.ireturn, 1) := by decide +kernel
theorem dL_wouldLevel_14 : decode cL_wouldLevel 14 = .ok (.iconst 0, 1) := by decide +kernel
theorem dL_wouldLevel_15 : decode cL_wouldLevel 15 = .ok (.ireturn, 1) := by decide +kernel
set_option maxRecDepth 20000 in
theorem ggL_wouldDone_X5_wouldDone : GoodIn wsL_wouldDone wsX5_wouldDone := goodIn_ca (goodIn_r _ [6, 7, 8, 9, 10, 11, 12, 13, 14, 15, 16, 17, 18, 19, 5, 20, 21, 22, 23, 24, 25, 26, 27, 28, 29, 30, 31, 32, 33, 34, 35, 36, 37, 38, 39, 40, 41, 42, 43, 44, 45, 46, 47, 48, 49, 50, 51, 52, 53, 54, 55, 56, 57, 58, 59, 60, 61, 62, 63, 64, 65, 66, 67, 68, 69, 70, 71, 72, 73, 74, 75, 76, 77, 78, 79, 80, 81, 82, 83, 84, 85, 86, 87, 88, 89, 90, 91, 92, 93, 94, 95, 96, 97, 98, 99, 100, 101, 102, 103, 104, 105, 106, 107, 108, 109, 110, 111, 112, 113, 114, 115, 116, 117, 118, 119, 120, 121, 122, 123, 124, 125, 126, 127, 128, 129, 130, 131, 132, 133, 134, 135, 136, 137, 138, 139, 140, 141, 142, 143, 144, 145, 146, 147, 148, 149, 150, 151, 152, 153, 154, 155, 156, 157, 158, 159, 160, 161, 162, 163, 164, 165, 166, 167, 168, 169, 170, 171, 172, 173, 174, 175, 176, 177, 178, 179, 180, 181, 182, 183, 184, 185, 186, 187, 188, 189, 190, 191, 192, 193, 194, 195, 196, 197, 198, 199, 200, 201, 202, 203, 204, 205, 206, 207, 208, 209, 210, 211, 212, 213, 214, 215, 216, 217, 218, 219, 220, 221, 222, 223, 224, 225, 226, 227, 228] (by decide +kernel) (by decide +kernel)) (goodIn_sub (fun _ h => List.mem_cons_of_mem _ (List.mem_append_right _ h)) (by decide +kernel))
set_option maxRecDepth 20000 in
theorem gL_wouldDone_X5_wouldDone : GoodIn wsL_wouldDone (wsV RL 85 RX5 yX5_wouldDone wsX5_wouldDone) := goodIn_app (goodIn_of _ (by decide +kernel)) ggL_wouldDone_X5_wouldDone
theorem dL_wouldDone_0 : decode cL_wouldDone 0 = .ok (.aload_n 2, 1) := by decide +kernel
theorem dL_wouldDone_1 : decode cL_wouldDone 1 = .ok (.iconst 0, 1) := by decide +kernel
theorem dL_wouldDone_2 : decode cL_wouldDone 2 = .ok (.aload_n 0, 1) := by decide +kernel
theorem dL_wouldDone_3 : decode cL_wouldDone 3 = .ok (.iload_n 1, 1) := by decide +kernel
theorem dL_wouldDone_4 : decode cL_wouldDone 4 = .ok (.invokevirtual 85, 3) := by decide +kernel
theorem dL_wouldDone_7 : decode cL_wouldDone 7 = .ok (.i2l, 1) := by decide +kernel
theorem dL_wouldDone_8 : decode cL_wouldDone 8 = .ok (.lastore, 1) := by decide +kernel
theorem dL_wouldDone_9 : decode cL_wouldDone 9 = .ok (.goto 6, 3) := by decide +kernel
theorem dL_wouldDone_12 : decode cL_wouldDone 12 = .ok (.astore_n 3, 1) := by decide +kernel
theorem dL_wouldDone_13 : decode cL_wouldDone 13 = .ok (.iconst 1, 1) := by decide +kernel
theorem dL_wouldDone_14 : decode cL_wouldDone 14 = .ok (.ireturn, 1) := by decide +kernel
theorem dL_wouldDone_15 : decode cL_wouldDone 15 = .ok (.iconst 0, 1) := by decide +kernel
theorem dL_wouldDone_16 : decode cL_wouldDone 16 = .ok (.ireturn, 1) := by decide +kernel
set_option maxRecDepth 20000 in
theorem ggL_best_X5_best : GoodIn wsL_best wsX5_best := goodIn_ca (goodIn_r _ [6, 7, 8, 9, 10, 5, 11, 12, 13, 14, 15, 16, 17, 18, 19, 20, 21, 22, 23, 24, 25, 26, 27, 28, 29, 30, 31, 32, 33, 34, 35, 36, 37, 38, 39, 40, 41, 42, 43, 44, 45, 46, 47, 48, 49, 50, 51, 52, 53, 54, 55, 56, 57, 58, 59, 60, 61, 62, 63, 64, 65, 66, 67, 68, 69, 70, 71, 72, 73, 74, 75, 76, 77, 78, 79, 80, 81, 82, 83, 84, 85, 86, 87, 88, 89, 90, 91, 92, 93, 94, 95, 96, 97, 98, 99, 100, 101, 102, 103, 104, 105, 106, 107, 108, 109, 110, 111, 112, 113, 114, 115, 116, 117, 118, 119, 120, 121, 122, 123, 124, 125, 126, 127, 128, 129, 130, 131, 132, 133, 134, 135, 136, 137, 138, 139, 140, 141, 142, 143, 144, 145, 146, 147, 148, 149, 150, 151, 152, 153, 154, 155, 156, 157, 158, 159, 160, 161, 162, 163, 164, 165, 166, 167, 168, 169, 170, 171, 172, 173, 174, 175, 176, 177, 178, 179, 180, 181, 182, 183, 184, 185, 186, 187, 188, 189, 190, 191, 192, 193, 194, 195, 196, 197, 198, 199, 200, 201, 202, 203, 204, 205, 206, 207, 208, 209, 210, 211, 212, 213, 214, 215, 216, 217, 218, 219, 220, 221, 222, 223, 224, 225, 226, 227, 228, 229, 230, 231, 232, 233, 234, 235, 236, 237, 238, 239] (by decide +kernel) (by decide +kernel)) (goodIn_sub (fun _ h => List.mem_cons_of_mem _ (List.mem_append_right _ h)) (by decide +kernel))
set_option maxRecDepth 20000 in
theorem gL_best_X5_best : GoodIn wsL_best (wsV RL 88 RX5 yX5_best wsX5_best) := goodIn_app (goodIn_of _ (by decide +kernel)) ggL_best_X5_best
theorem dL_best_0 : decode cL_best 0 = .ok (.aload_n 2, 1) := by decide +kernel
theorem dL_best_1 : decode cL_best 1 = .ok (.iconst 0, 1) := by decide +kernel
theorem dL_best_2 : decode cL_best 2 = .ok (.aload_n 0, 1) := by decide +kernel
theorem dL_best_3 : decode cL_best 3 = .ok (.iload_n 1, 1) := by decide +kernel
theorem dL_best_4 : decode cL_best 4 = .ok (.invokevirtual 88, 3) := by decide +kernel
theorem dL_best_7 : decode cL_best 7 = .ok (.i2l, 1) := by decide +kernel
theorem dL_best_8 : decode cL_best 8 = .ok (.lastore, 1) := by decide +kernel
theorem dL_best_9 : decode cL_best 9 = .ok (.goto 6, 3) := by decide +kernel
theorem dL_best_12 : decode cL_best 12 = .ok (.astore_n 3, 1) := by decide +kernel
theorem dL_best_13 : decode cL_best 13 = .ok (.iconst 1, 1) := by decide +kernel
theorem dL_best_14 : decode cL_best 14 = .ok (.ireturn, 1) := by decide +kernel
theorem dL_best_15 : decode cL_best 15 = .ok (.iconst 0, 1) := by decide +kernel
theorem dL_best_16 : decode cL_best 16 = .ok (.ireturn, 1) := by decide +kernel
