theorem dX5_ticksToDone_58 : decode cX5_ticksToDone 58 = .ok (.aload_n 0, 1) := by decide +kernel
theorem dX5_ticksToDone_59 : decode cX5_ticksToDone 59 = .ok (.getfield 16, 3) := by decide +kernel
theorem dX5_ticksToDone_62 : decode cX5_ticksToDone 62 = .ok (.getfield 119, 3) := by decide +kernel
theorem dX5_ticksToDone_65 : decode cX5_ticksToDone 65 = .ok (.getfield 145, 3) := by decide +kernel
theorem dX5_ticksToDone_68 : decode cX5_ticksToDone 68 = .ok (.iload_n 1, 1) := by decide +kernel
theorem dX5_ticksToDone_69 : decode cX5_ticksToDone 69 = .ok (.iaload, 1) := by decide +kernel
theorem dX5_ticksToDone_70 : decode cX5_ticksToDone 70 = .ok (.iconst 2, 1) := by decide +kernel
theorem dX5_ticksToDone_71 : decode cX5_ticksToDone 71 = .ok (.if_icmp .ne 5, 3) := by decide +kernel
theorem dX5_ticksToDone_74 : decode cX5_ticksToDone 74 = .ok (.iload_n 3, 1) := by decide +kernel
theorem dX5_ticksToDone_75 : decode cX5_ticksToDone 75 = .ok (.ireturn, 1) := by decide +kernel
theorem dX5_ticksToDone_76 : decode cX5_ticksToDone 76 = .ok (.iinc 3 1, 3) := by decide +kernel
theorem dX5_ticksToDone_79 : decode cX5_ticksToDone 79 = .ok (.goto (-35), 3) := by decide +kernel
theorem dX5_ticksToDone_82 : decode cX5_ticksToDone 82 = .ok (.iconst (-1), 1) := by decide +kernel
theorem dX5_ticksToDone_83 : decode cX5_ticksToDone 83 = .ok (.ireturn, 1) := by decide +kernel
set_option maxRecDepth 20000 in
theorem ggX5_bestSluice_X5_leftWith : GoodIn wsX5_bestSluice wsX5_leftWith := goodIn_r _ [5, 6, 7, 8, 9, 10, 11, 12, 13, 14, 15, 16, 17, 18, 19, 20, 21, 22, 23, 24, 25, 26, 27, 28, 29, 30, 31, 32, 33, 34, 35, 36, 37, 38, 39, 40, 41, 42, 43, 44, 45, 46, 47, 48, 49, 50, 51, 52, 53, 54, 55, 56, 57, 58, 59, 60, 61, 62, 63, 64, 65, 66, 67, 68, 69, 70, 71, 72, 73, 74, 75, 76, 77, 78, 79, 80, 81, 82, 83, 84, 85, 86, 87, 88, 89, 90, 91, 92, 93, 94, 95, 96, 97, 98, 99, 100, 101, 102, 103, 104, 105, 106, 107, 108, 109, 110, 111, 112, 113, 114, 115, 116, 117, 118, 119, 120, 121, 122, 123, 124, 125, 126, 127, 128, 129, 130, 131, 132, 133, 134, 135, 136, 137, 138, 139, 140, 141, 142, 143, 144, 145, 146, 147, 148, 149, 150, 151, 152, 153, 154, 155, 156, 157, 158, 159, 160, 161, 162, 163, 164, 165, 166, 167, 4, 168, 169, 170, 171, 172, 173, 174, 175, 176, 177, 178, 179, 180, 181, 182, 183, 184, 185, 186, 187, 188, 189, 190, 191, 192, 193, 194, 195, 196, 197, 198, 199, 200, 201, 202, 203, 204, 205, 206, 207, 208, 209, 210, 211, 212, 213, 214, 215, 216, 217, 218, 219, 220, 221, 222, 223, 224, 225] (by decide +kernel) (by decide +kernel)
set_option maxRecDepth 20000 in
theorem gX5_bestSluice_X5_leftWith : GoodIn wsX5_bestSluice (wsV RX5 317 RX5 yX5_leftWith wsX5_leftWith) := goodIn_app (goodIn_of _ (by decide +kernel)) ggX5_bestSluice_X5_leftWith
theorem dX5_bestSluice_0 : decode cX5_bestSluice 0 = .ok (.iconst 0, 1) := by decide +kernel
theorem dX5_bestSluice_1 : decode cX5_bestSluice 1 = .ok (.istore_n 2, 1) := by decide +kernel
theorem dX5_bestSluice_2 : decode cX5_bestSluice 2 = .ok (.aload_n 0, 1) := by decide +kernel
theorem dX5_bestSluice_3 : decode cX5_bestSluice 3 = .ok (.iconst 0, 1) := by decide +kernel
theorem dX5_bestSluice_4 : decode cX5_bestSluice 4 = .ok (.iload_n 1, 1) := by decide +kernel
theorem dX5_bestSluice_5 : decode cX5_bestSluice 5 = .ok (.invokevirtual 317, 3) := by decide +kernel
theorem dX5_bestSluice_8 : decode cX5_bestSluice 8 = .ok (.dstore_n 3, 1) := by decide +kernel
theorem dX5_bestSluice_9 : decode cX5_bestSluice 9 = .ok (.iconst 1, 1) := by decide +kernel
theorem dX5_bestSluice_10 : decode cX5_bestSluice 10 = .ok (.istore 5, 2) := by decide +kernel
theorem dX5_bestSluice_12 : decode cX5_bestSluice 12 = .ok (.iload 5, 2) := by decide +kernel
theorem dX5_bestSluice_14 : decode cX5_bestSluice 14 = .ok (.iconst 4, 1) := by decide +kernel
theorem dX5_bestSluice_15 : decode cX5_bestSluice 15 = .ok (.if_icmp .gt 31, 3) := by decide +kernel
theorem dX5_bestSluice_18 : decode cX5_bestSluice 18 = .ok (.aload_n 0, 1) := by decide +kernel
theorem dX5_bestSluice_19 : decode cX5_bestSluice 19 = .ok (.iload 5, 2) := by decide +kernel
theorem dX5_bestSluice_21 : decode cX5_bestSluice 21 = .ok (.iload_n 1, 1) := by decide +kernel
theorem dX5_bestSluice_22 : decode cX5_bestSluice 22 = .ok (.invokevirtual 317, 3) := by decide +kernel
theorem dX5_bestSluice_25 : decode cX5_bestSluice 25 = .ok (.dstore 6, 2) := by decide +kernel
theorem dX5_bestSluice_27 : decode cX5_bestSluice 27 = .ok (.dload 6, 2) := by decide +kernel
theorem dX5_bestSluice_29 : decode cX5_bestSluice 29 = .ok (.dload_n 3, 1) := by decide +kernel
theorem dX5_bestSluice_30 : decode cX5_bestSluice 30 = .ok (.dcmp .g, 1) := by decide +kernel
theorem dX5_bestSluice_31 : decode cX5_bestSluice 31 = .ok (.ifCond .ge 9, 3) := by decide +kernel
theorem dX5_bestSluice_34 : decode cX5_bestSluice 34 = .ok (.iload 5, 2) := by decide +kernel
theorem dX5_bestSluice_36 : decode cX5_bestSluice 36 = .ok (.istore_n 2, 1) := by decide +kernel
theorem dX5_bestSluice_37 : decode cX5_bestSluice 37 = .ok (.dload 6, 2) := by decide +kernel
theorem dX5_bestSluice_39 : decode cX5_bestSluice 39 = .ok (.dstore_n 3, 1) := by decide +kernel
theorem dX5_bestSluice_40 : decode cX5_bestSluice 40 = .ok (.iinc 5 1, 3) := by decide +kernel
theorem dX5_bestSluice_43 : decode cX5_bestSluice 43 = .ok (.goto (-31), 3) := by decide +kernel
theorem dX5_bestSluice_46 : decode cX5_bestSluice 46 = .ok (.iload_n 2, 1) := by decide +kernel
theorem dX5_bestSluice_47 : decode cX5_bestSluice 47 = .ok (.ireturn, 1) := by decide +kernel
set_option maxRecDepth 20000 in
theorem ggX5_leftWith_X1_copyFrom : GoodIn wsX5_leftWith wsX1_copyFrom := goodIn_r _ [10, 11, 12, 13, 14, 15, 16, 17, 18, 19, 20, 21, 22, 23, 24, 25, 26, 27, 28, 29, 30, 31, 32, 33, 34, 35, 36, 37, 38, 39, 40, 41, 42, 43, 44, 45, 46, 47, 48, 49, 50, 51, 52, 53, 54, 55, 56, 57, 58, 59, 60, 61, 62, 63, 194, 195, 196, 197, 198, 199, 200, 207, 208, 209, 201, 202, 203, 204, 205, 206, 210, 211, 212, 213, 214, 215, 216, 217, 218, 219, 220, 221] (by decide +kernel) (by decide +kernel)
set_option maxRecDepth 20000 in
theorem gX5_leftWith_X1_copyFrom : GoodIn wsX5_leftWith (wsV RX5 250 RX1 yX1_copyFrom wsX1_copyFrom) := goodIn_app (goodIn_of _ (by decide +kernel)) ggX5_leftWith_X1_copyFrom
set_option maxRecDepth 20000 in
theorem ggX5_leftWith_X1_goBy : GoodIn wsX5_leftWith wsX1_goBy := goodIn_r _ [67, 12, 11, 68, 14, 69, 13, 17, 70, 71, 72, 73, 21, 74, 75, 76, 77, 25, 78, 79, 80, 81, 82, 83, 84, 85, 86, 87, 88, 24, 89, 90, 91, 92, 93, 94, 95, 96, 97, 98, 99, 100, 101, 102, 103, 104, 105, 106, 29, 107, 108, 109, 110, 111, 33, 31, 112, 32, 113, 114, 115, 116, 117, 118, 119, 120, 121, 122, 123, 124, 36, 34, 125, 126, 127, 128, 129, 35, 130, 131, 132, 133, 9, 134, 15, 16, 135, 136, 137, 138, 23, 139, 140, 141, 56, 142, 63, 61, 60, 143, 144, 145, 146, 58, 147, 148, 149, 40, 150, 52, 151, 152, 153, 154, 155, 156, 157, 158, 159, 160, 161, 51, 47, 50, 162, 163, 164, 165, 166, 167, 168, 169, 170, 171, 172, 173, 174, 175, 176, 177, 62, 178, 179, 180, 181, 182, 183, 194, 195, 196, 197, 198, 199, 200, 207, 208, 209, 201, 202, 203, 204, 205, 206, 217, 218, 219, 220, 221, 210, 211, 212, 213, 214, 215, 216] (by decide +kernel) (by decide +kernel)
set_option maxRecDepth 20000 in
theorem gX5_leftWith_X1_goBy : GoodIn wsX5_leftWith (wsV RX5 314 RX1 yX1_goBy wsX1_goBy) := goodIn_app (goodIn_of _ (by decide +kernel)) ggX5_leftWith_X1_goBy
set_option maxRecDepth 20000 in
theorem ggX5_leftWith_X0_allLeft : GoodIn wsX5_leftWith wsX0_allLeft := goodIn_r _ [187, 52, 51, 210, 211, 212, 213, 214, 215, 216] (by decide +kernel) (by decide +kernel)
set_option maxRecDepth 20000 in
theorem gX5_leftWith_X0_allLeft : GoodIn wsX5_leftWith (wsV RX5 321 RX0 yX0_allLeft wsX0_allLeft) := goodIn_app (goodIn_of _ (by decide +kernel)) ggX5_leftWith_X0_allLeft
theorem dX5_leftWith_0 : decode cX5_leftWith 0 = .ok (.aload_n 0, 1) := by decide +kernel
theorem dX5_leftWith_1 : decode cX5_leftWith 1 = .ok (.getfield 16, 3) := by decide +kernel
theorem dX5_leftWith_4 : decode cX5_leftWith 4 = .ok (.aload_n 0, 1) := by decide +kernel
theorem dX5_leftWith_5 : decode cX5_leftWith 5 = .ok (.getfield 10, 3) := by decide +kernel
theorem dX5_leftWith_8 : decode cX5_leftWith 8 = .ok (.invokevirtual 250, 3) := by decide +kernel
theorem dX5_leftWith_11 : decode cX5_leftWith 11 = .ok (.aload_n 0, 1) := by decide +kernel
theorem dX5_leftWith_12 : decode cX5_leftWith 12 = .ok (.getfield 16, 3) := by decide +kernel
theorem dX5_leftWith_15 : decode cX5_leftWith 15 = .ok (.getfield 70, 3) := by decide +kernel
theorem dX5_leftWith_18 : decode cX5_leftWith 18 = .ok (.iload_n 1, 1) := by decide +kernel
theorem dX5_leftWith_19 : decode cX5_leftWith 19 = .ok (.putfield 81, 3) := by decide +kernel
theorem dX5_leftWith_22 : decode cX5_leftWith 22 = .ok (.iconst 0, 1) := by decide +kernel
theorem dX5_leftWith_23 : decode cX5_leftWith 23 = .ok (.istore_n 3, 1) := by decide +kernel
theorem dX5_leftWith_24 : decode cX5_leftWith 24 = .ok (.iload_n 3, 1) := by decide +kernel
theorem dX5_leftWith_25 : decode cX5_leftWith 25 = .ok (.iload_n 2, 1) := by decide +kernel
theorem dX5_leftWith_26 : decode cX5_leftWith 26 = .ok (.if_icmp .ge 16, 3) := by decide +kernel
theorem dX5_leftWith_29 : decode cX5_leftWith 29 = .ok (.aload_n 0, 1) := by decide +kernel
theorem dX5_leftWith_30 : decode cX5_leftWith 30 = .ok (.getfield 16, 3) := by decide +kernel
theorem dX5_leftWith_33 : decode cX5_leftWith 33 = .ok (.invokevirtual 314, 3) := by decide +kernel
theorem dX5_leftWith_36 : decode cX5_leftWith 36 = .ok (.iinc 3 1, 3) := by decide +kernel
theorem dX5_leftWith_39 : decode cX5_leftWith 39 = .ok (.goto (-15), 3) := by decide +kernel
theorem dX5_leftWith_42 : decode cX5_leftWith 42 = .ok (.aload_n 0, 1) := by decide +kernel
theorem dX5_leftWith_43 : decode cX5_leftWith 43 = .ok (.getfield 16, 3) := by decide +kernel
theorem dX5_leftWith_46 : decode cX5_leftWith 46 = .ok (.getfield 119, 3) := by decide +kernel
theorem dX5_leftWith_49 : decode cX5_leftWith 49 = .ok (.invokevirtual 321, 3) := by decide +kernel
theorem dX5_leftWith_52 : decode cX5_leftWith 52 = .ok (.dreturn, 1) := by decide +kernel
set_option maxRecDepth 20000 in
theorem ggX5_joinedPair_X5_pairAnswer : GoodIn wsX5_joinedPair wsX5_pairAnswer := goodIn_r _ [8, 1, 2, 9, 10, 11, 20, 21, 22, 23, 24, 25, 26, 27, 28, 29, 30, 31, 32, 33, 34, 35, 36, 37] (by decide +kernel) (by decide +kernel)
set_option maxRecDepth 20000 in
theorem gX5_joinedPair_X5_pairAnswer : GoodIn wsX5_joinedPair (wsV RX5 226 RX5 yX5_pairAnswer wsX5_pairAnswer) := goodIn_app (goodIn_of _ (by decide +kernel)) ggX5_joinedPair_X5_pairAnswer
set_option maxRecDepth 20000 in
theorem ggX5_joinedPair_X5_joined : GoodIn wsX5_joinedPair wsX5_joined := goodIn_r _ [14, 15] (by decide +kernel) (by decide +kernel)
set_option maxRecDepth 20000 in
theorem gX5_joinedPair_X5_joined : GoodIn wsX5_joinedPair (va_wsS RX5 267 yX5_joined wsX5_joined) := goodIn_app (goodIn_of _ (by decide +kernel)) ggX5_joinedPair_X5_joined
set_option maxRecDepth 20000 in
theorem ggX5_joinedPair_X5_cutOf1024 : GoodIn wsX5_joinedPair wsX5_cutOf1024 := goodIn_r _ [18, 19] (by decide +kernel) (by decide +kernel)
set_option maxRecDepth 20000 in
theorem gX5_joinedPair_X5_cutOf1024 : GoodIn wsX5_joinedPair (va_wsS RX5 271 yX5_cutOf1024 wsX5_cutOf1024) := goodIn_app (goodIn_of _ (by decide +kernel)) ggX5_joinedPair_X5_cutOf1024
theorem dX5_joinedPair_0 : decode cX5_joinedPair 0 = .ok (.lload_n 1, 1) := by decide +kernel
theorem dX5_joinedPair_1 : decode cX5_joinedPair 1 = .ok (.lstore 4, 2) := by decide +kernel
theorem dX5_joinedPair_3 : decode cX5_joinedPair 3 = .ok (.iconst 0, 1) := by decide +kernel
theorem dX5_joinedPair_4 : decode cX5_joinedPair 4 = .ok (.istore 6, 2) := by decide +kernel
theorem dX5_joinedPair_6 : decode cX5_joinedPair 6 = .ok (.iload 6, 2) := by decide +kernel
theorem dX5_joinedPair_8 : decode cX5_joinedPair 8 = .ok (.iconst 2, 1) := by decide +kernel
theorem dX5_joinedPair_9 : decode cX5_joinedPair 9 = .ok (.if_icmp .gt 24, 3) := by decide +kernel
theorem dX5_joinedPair_12 : decode cX5_joinedPair 12 = .ok (.lload 4, 2) := by decide +kernel
theorem dX5_joinedPair_14 : decode cX5_joinedPair 14 = .ok (.aload_n 0, 1) := by decide +kernel
theorem dX5_joinedPair_15 : decode cX5_joinedPair 15 = .ok (.iload_n 3, 1) := by decide +kernel
theorem dX5_joinedPair_16 : decode cX5_joinedPair 16 = .ok (.iload 6, 2) := by decide +kernel
theorem dX5_joinedPair_18 : decode cX5_joinedPair 18 = .ok (.invokevirtual 226, 3) := by decide +kernel
theorem dX5_joinedPair_21 : decode cX5_joinedPair 21 = .ok (.i2l, 1) := by decide +kernel
theorem dX5_joinedPair_22 : decode cX5_joinedPair 22 = .ok (.invokestatic 267, 3) := by decide +kernel
theorem dX5_joinedPair_25 : decode cX5_joinedPair 25 = .ok (.lstore 4, 2) := by decide +kernel
theorem dX5_joinedPair_27 : decode cX5_joinedPair 27 = .ok (.iinc 6 1, 3) := by decide +kernel
theorem dX5_joinedPair_30 : decode cX5_joinedPair 30 = .ok (.goto (-24), 3) := by decide +kernel
theorem dX5_joinedPair_33 : decode cX5_joinedPair 33 = .ok (.lload 4, 2) := by decide +kernel
theorem dX5_joinedPair_35 : decode cX5_joinedPair 35 = .ok (.aload_n 0, 1) := by decide +kernel
theorem dX5_joinedPair_36 : decode cX5_joinedPair 36 = .ok (.getfield 10, 3) := by decide +kernel
theorem dX5_joinedPair_39 : decode cX5_joinedPair 39 = .ok (.getfield 102, 3) := by decide +kernel
theorem dX5_joinedPair_42 : decode cX5_joinedPair 42 = .ok (.getfield 171, 3) := by decide +kernel
theorem dX5_joinedPair_45 : decode cX5_joinedPair 45 = .ok (.iload_n 3, 1) := by decide +kernel
theorem dX5_joinedPair_46 : decode cX5_joinedPair 46 = .ok (.faload, 1) := by decide +kernel
theorem dX5_joinedPair_47 : decode cX5_joinedPair 47 = .ok (.f2d, 1) := by decide +kernel
theorem dX5_joinedPair_48 : decode cX5_joinedPair 48 = .ok (.invokestatic 271, 3) := by decide +kernel
theorem dX5_joinedPair_51 : decode cX5_joinedPair 51 = .ok (.invokestatic 267, 3) := by decide +kernel
theorem dX5_joinedPair_54 : decode cX5_joinedPair 54 = .ok (.lreturn, 1) := by decide +kernel
set_option maxRecDepth 20000 in
theorem ggX5_joinedLot_X5_lotAnswer : GoodIn wsX5_joinedLot wsX5_lotAnswer := goodIn_r _ [8, 1, 2, 9, 10, 11, 12, 13, 14, 15, 16, 17, 18, 19, 20, 21, 209, 210, 211, 212, 213, 214, 215, 216, 217, 218, 219, 220, 221, 222, 223, 224, 225, 226, 227, 228, 229, 230, 231, 232, 233] (by decide +kernel) (by decide +kernel)
set_option maxRecDepth 20000 in
theorem gX5_joinedLot_X5_lotAnswer : GoodIn wsX5_joinedLot (wsV RX5 229 RX5 yX5_lotAnswer wsX5_lotAnswer) := goodIn_app (goodIn_of _ (by decide +kernel)) ggX5_joinedLot_X5_lotAnswer
set_option maxRecDepth 20000 in
theorem ggX5_joinedLot_X5_joined : GoodIn wsX5_joinedLot wsX5_joined := goodIn_r _ [24, 25] (by decide +kernel) (by decide +kernel)
set_option maxRecDepth 20000 in
theorem gX5_joinedLot_X5_joined : GoodIn wsX5_joinedLot (va_wsS RX5 267 yX5_joined wsX5_joined) := goodIn_app (goodIn_of _ (by decide +kernel)) ggX5_joinedLot_X5_joined
set_option maxRecDepth 20000 in
theorem ggX5_joinedLot_X5_cutOf1024 : GoodIn wsX5_joinedLot wsX5_cutOf1024 := goodIn_r _ [28, 29] (by decide +kernel) (by decide +kernel)
set_option maxRecDepth 20000 in
theorem gX5_joinedLot_X5_cutOf1024 : GoodIn wsX5_joinedLot (va_wsS RX5 271 yX5_cutOf1024 wsX5_cutOf1024) := goodIn_app (goodIn_of _ (by decide +kernel)) ggX5_joinedLot_X5_cutOf1024
set_option maxRecDepth 20000 in
theorem ggX5_joinedLot_X5_ticksToDone : GoodIn wsX5_joinedLot wsX5_ticksToDone := goodIn_r _ [33, 1, 2, 13, 34, 35, 36, 37, 38, 39, 40, 41, 42, 43, 44, 45, 46, 47, 48, 49, 50, 51, 52, 53, 54, 55, 56, 57, 58, 59, 60, 61, 62, 63, 64, 65, 66, 67, 68, 69, 70, 71, 72, 73, 74, 75, 76, 77, 78, 79, 80, 81, 82, 83, 84, 18, 85, 86, 87, 21, 88, 89, 20, 90, 91, 92, 93, 94, 95, 96, 97, 98, 99, 100, 101, 102, 103, 104, 105, 106, 107, 108, 109, 110, 111, 112, 113, 114, 115, 116, 117, 118, 119, 120, 121, 122, 123, 124, 125, 126, 127, 128, 129, 130, 131, 132, 133, 134, 135, 136, 137, 138, 139, 140, 141, 142, 143, 144, 145, 146, 147, 148, 149, 150, 151, 152, 153, 154, 155, 156, 157, 158, 159, 160, 161, 162, 163, 164, 165, 166, 167, 168, 169, 170, 171, 172, 173, 174, 175, 176, 177, 178, 179, 180, 181, 182, 183, 184, 185, 186, 187, 188, 7, 189, 190, 191, 192, 193, 194, 195, 196, 197, 198, 199, 200, 201, 202, 203, 204, 205, 206, 207, 208, 209, 210, 211, 212, 213, 214, 215, 216, 217, 218, 219, 220, 221, 222, 223, 224, 225, 226, 227, 228, 234, 235, 236, 237, 238, 239, 240, 241, 242, 229, 230, 231, 232, 233] (by decide +kernel) (by decide +kernel)
set_option maxRecDepth 20000 in
theorem gX5_joinedLot_X5_ticksToDone : GoodIn wsX5_joinedLot (wsV RX5 257 RX5 yX5_ticksToDone wsX5_ticksToDone) := goodIn_app (goodIn_of _ (by decide +kernel)) ggX5_joinedLot_X5_ticksToDone
theorem dX5_joinedLot_0 : decode cX5_joinedLot 0 = .ok (.lload_n 1, 1) := by decide +kernel
theorem dX5_joinedLot_1 : decode cX5_joinedLot 1 = .ok (.lstore 4, 2) := by decide +kernel
theorem dX5_joinedLot_3 : decode cX5_joinedLot 3 = .ok (.iconst 0, 1) := by decide +kernel
theorem dX5_joinedLot_4 : decode cX5_joinedLot 4 = .ok (.istore 6, 2) := by decide +kernel
theorem dX5_joinedLot_6 : decode cX5_joinedLot 6 = .ok (.iload 6, 2) := by decide +kernel
theorem dX5_joinedLot_8 : decode cX5_joinedLot 8 = .ok (.iconst 5, 1) := by decide +kernel
theorem dX5_joinedLot_9 : decode cX5_joinedLot 9 = .ok (.if_icmp .gt 24, 3) := by decide +kernel
theorem dX5_joinedLot_12 : decode cX5_joinedLot 12 = .ok (.lload 4, 2) := by decide +kernel
theorem dX5_joinedLot_14 : decode cX5_joinedLot 14 = .ok (.aload_n 0, 1) := by decide +kernel
theorem dX5_joinedLot_15 : decode cX5_joinedLot 15 = .ok (.iload_n 3, 1) := by decide +kernel
theorem dX5_joinedLot_16 : decode cX5_joinedLot 16 = .ok (.iload 6, 2) := by decide +kernel
theorem dX5_joinedLot_18 : decode cX5_joinedLot 18 = .ok (.invokevirtual 229, 3) := by decide +kernel
theorem dX5_joinedLot_21 : decode cX5_joinedLot 21 = .ok (.i2l, 1) := by decide +kernel
theorem dX5_joinedLot_22 : decode cX5_joinedLot 22 = .ok (.invokestatic 267, 3) := by decide +kernel
theorem dX5_joinedLot_25 : decode cX5_joinedLot 25 = .ok (.lstore 4, 2) := by decide +kernel
theorem dX5_joinedLot_27 : decode cX5_joinedLot 27 = .ok (.iinc 6 1, 3) := by decide +kernel
theorem dX5_joinedLot_30 : decode cX5_joinedLot 30 = .ok (.goto (-24), 3) := by decide +kernel
theorem dX5_joinedLot_33 : decode cX5_joinedLot 33 = .ok (.lload 4, 2) := by decide +kernel
theorem dX5_joinedLot_35 : decode cX5_joinedLot 35 = .ok (.aload_n 0, 1) := by decide +kernel
theorem dX5_joinedLot_36 : decode cX5_joinedLot 36 = .ok (.getfield 10, 3) := by decide +kernel
theorem dX5_joinedLot_39 : decode cX5_joinedLot 39 = .ok (.getfield 119, 3) := by decide +kernel
theorem dX5_joinedLot_42 : decode cX5_joinedLot 42 = .ok (.getfield 232, 3) := by decide +kernel
theorem dX5_joinedLot_45 : decode cX5_joinedLot 45 = .ok (.iload_n 3, 1) := by decide +kernel
theorem dX5_joinedLot_46 : decode cX5_joinedLot 46 = .ok (.daload, 1) := by decide +kernel
theorem dX5_joinedLot_47 : decode cX5_joinedLot 47 = .ok (.invokestatic 271, 3) := by decide +kernel
theorem dX5_joinedLot_50 : decode cX5_joinedLot 50 = .ok (.invokestatic 267, 3) := by decide +kernel
theorem dX5_joinedLot_53 : decode cX5_joinedLot 53 = .ok (.lstore 4, 2) := by decide +kernel
theorem dX5_joinedLot_55 : decode cX5_joinedLot 55 = .ok (.lload 4, 2) := by decide +kernel
theorem dX5_joinedLot_57 : decode cX5_joinedLot 57 = .ok (.aload_n 0, 1) := by decide +kernel
theorem dX5_joinedLot_58 : decode cX5_joinedLot 58 = .ok (.iload_n 3, 1) := by decide +kernel
theorem dX5_joinedLot_59 : decode cX5_joinedLot 59 = .ok (.invokevirtual 257, 3) := by decide +kernel
theorem dX5_joinedLot_62 : decode cX5_joinedLot 62 = .ok (.i2l, 1) := by decide +kernel
theorem dX5_joinedLot_63 : decode cX5_joinedLot 63 = .ok (.invokestatic 267, 3) := by decide +kernel
theorem dX5_joinedLot_66 : decode cX5_joinedLot 66 = .ok (.lreturn, 1) := by decide +kernel
theorem dX5_joined_0 : decode cX5_joined 0 = .ok (.lload_n 0, 1) := by decide +kernel
theorem dX5_joined_1 : decode cX5_joined 1 = .ok (.ldc2_w 324, 3) := by decide +kernel
theorem dX5_joined_4 : decode cX5_joined 4 = .ok (.lmul, 1) := by decide +kernel
theorem dX5_joined_5 : decode cX5_joined 5 = .ok (.lload_n 2, 1) := by decide +kernel
theorem dX5_joined_6 : decode cX5_joined 6 = .ok (.ladd, 1) := by decide +kernel
theorem dX5_joined_7 : decode cX5_joined 7 = .ok (.lreturn, 1) := by decide +kernel
theorem dX5_cutOf1024_0 : decode cX5_cutOf1024 0 = .ok (.ldc2_w 326, 3) := by decide +kernel
theorem dX5_cutOf1024_3 : decode cX5_cutOf1024 3 = .ok (.dload_n 0, 1) := by decide +kernel
theorem dX5_cutOf1024_4 : decode cX5_cutOf1024 4 = .ok (.dmul, 1) := by decide +kernel
theorem dX5_cutOf1024_5 : decode cX5_cutOf1024 5 = .ok (.d2l, 1) := by decide +kernel
theorem dX5_cutOf1024_6 : decode cX5_cutOf1024 6 = .ok (.lreturn, 1) := by decide +kernel
theorem dX5_isWithin_0 : decode cX5_isWithin 0 = .ok (.iload_n 0, 1) := by decide +kernel
theorem dX5_isWithin_1 : decode cX5_isWithin 1 = .ok (.iload_n 1, 1) := by decide +kernel
theorem dX5_isWithin_2 : decode cX5_isWithin 2 = .ok (.if_icmp .lt 12, 3) := by decide +kernel
theorem dX5_isWithin_5 : decode cX5_isWithin 5 = .ok (.iload_n 0, 1) := by decide +kernel
theorem dX5_isWithin_6 : decode cX5_isWithin 6 = .ok (.iload_n 2, 1) := by decide +kernel
theorem dX5_isWithin_7 : decode cX5_isWithin 7 = .ok (.if_icmp .gt 7, 3) := by decide +kernel
theorem dX5_isWithin_10 : decode cX5_isWithin 10 = .ok (.iconst 1, 1) := by decide +kernel
theorem dX5_isWithin_11 : decode cX5_isWithin 11 = .ok (.goto 4, 3) := by decide +kernel
theorem dX5_isWithin_14 : decode cX5_isWithin 14 = .ok (.iconst 0, 1) := by decide +kernel
theorem dX5_isWithin_15 : decode cX5_isWithin 15 = .ok (.ireturn, 1) := by decide +kernel
theorem dX5_roundedUp_0 : decode cX5_roundedUp 0 = .ok (.dload_n 0, 1) := by decide +kernel
theorem dX5_roundedUp_1 : decode cX5_roundedUp 1 = .ok (.d2i, 1) := by decide +kernel
theorem dX5_roundedUp_2 : decode cX5_roundedUp 2 = .ok (.istore_n 2, 1) := by decide +kernel
theorem dX5_roundedUp_3 : decode cX5_roundedUp 3 = .ok (.iload_n 2, 1) := by decide +kernel
theorem dX5_roundedUp_4 : decode cX5_roundedUp 4 = .ok (.i2d, 1) := by decide +kernel
theorem dX5_roundedUp_5 : decode cX5_roundedUp 5 = .ok (.dload_n 0, 1) := by decide +kernel
theorem dX5_roundedUp_6 : decode cX5_roundedUp 6 = .ok (.dcmp .g, 1) := by decide +kernel
theorem dX5_roundedUp_7 : decode cX5_roundedUp 7 = .ok (.ifCond .ge 9, 3) := by decide +kernel
theorem dX5_roundedUp_10 : decode cX5_roundedUp 10 = .ok (.iload_n 2, 1) := by decide +kernel
theorem dX5_roundedUp_11 : decode cX5_roundedUp 11 = .ok (.iconst 1, 1) := by decide +kernel
theorem dX5_roundedUp_12 : decode cX5_roundedUp 12 = .ok (.iadd, 1) := by decide +kernel
theorem dX5_roundedUp_13 : decode cX5_roundedUp 13 = .ok (.goto 4, 3) := by decide +kernel
theorem dX5_roundedUp_16 : decode cX5_roundedUp 16 = .ok (.iload_n 2, 1) := by decide +kernel
theorem dX5_roundedUp_17 : decode cX5_roundedUp 17 = .ok (.ireturn, 1) := by decide +kernel
theorem dX5_paceOf_0 : decode cX5_paceOf 0 = .ok (.iload_n 0, 1) := by decide +kernel
theorem dX5_paceOf_1 : decode cX5_paceOf 1 = .ok (.ifCond .ne 7, 3) := by decide +kernel
theorem dX5_paceOf_4 : decode cX5_paceOf 4 = .ok (.ldc2_w 328, 3) := by decide +kernel
theorem dX5_paceOf_7 : decode cX5_paceOf 7 = .ok (.dreturn, 1) := by decide +kernel
theorem dX5_paceOf_8 : decode cX5_paceOf 8 = .ok (.iload_n 0, 1) := by decide +kernel
theorem dX5_paceOf_9 : decode cX5_paceOf 9 = .ok (.iconst 1, 1) := by decide +kernel
theorem dX5_paceOf_10 : decode cX5_paceOf 10 = .ok (.if_icmp .ne 9, 3) := by decide +kernel
theorem dX5_paceOf_13 : decode cX5_paceOf 13 = .ok (.ldc2_w 330, 3) := by decide +kernel
theorem dX5_paceOf_16 : decode cX5_paceOf 16 = .ok (.goto 6, 3) := by decide +kernel
theorem dX5_paceOf_19 : decode cX5_paceOf 19 = .ok (.ldc2_w 332, 3) := by decide +kernel
theorem dX5_paceOf_22 : decode cX5_paceOf 22 = .ok (.dreturn, 1) := by decide +kernel
theorem dX5_hardnessOf_0 : decode cX5_hardnessOf 0 = .ok (.iload_n 0, 1) := by decide +kernel
theorem dX5_hardnessOf_1 : decode cX5_hardnessOf 1 = .ok (.iconst 1, 1) := by decide +kernel
theorem dX5_hardnessOf_2 : decode cX5_hardnessOf 2 = .ok (.if_icmp .ne 7, 3) := by decide +kernel
theorem dX5_hardnessOf_5 : decode cX5_hardnessOf 5 = .ok (.fconst 2, 1) := by decide +kernel
theorem dX5_hardnessOf_6 : decode cX5_hardnessOf 6 = .ok (.goto 4, 3) := by decide +kernel
theorem dX5_hardnessOf_9 : decode cX5_hardnessOf 9 = .ok (.fconst 1, 1) := by decide +kernel
theorem dX5_hardnessOf_10 : decode cX5_hardnessOf 10 = .ok (.freturn, 1) := by decide +kernel
theorem dX5_priceOf_0 : decode cX5_priceOf 0 = .ok (.iload_n 0, 1) := by decide +kernel
theorem dX5_priceOf_1 : decode cX5_priceOf 1 = .ok (.ifCond .ne 5, 3) := by decide +kernel
theorem dX5_priceOf_4 : decode cX5_priceOf 4 = .ok (.iconst 3, 1) := by decide +kernel
theorem dX5_priceOf_5 : decode cX5_priceOf 5 = .ok (.ireturn, 1) := by decide +kernel
theorem dX5_priceOf_6 : decode cX5_priceOf 6 = .ok (.iload_n 0, 1) := by decide +kernel
theorem dX5_priceOf_7 : decode cX5_priceOf 7 = .ok (.iconst 1, 1) := by decide +kernel
theorem dX5_priceOf_8 : decode cX5_priceOf 8 = .ok (.if_icmp .ne 7, 3) := by decide +kernel
theorem dX5_priceOf_11 : decode cX5_priceOf 11 = .ok (.iconst 2, 1) := by decide +kernel
theorem dX5_priceOf_12 : decode cX5_priceOf 12 = .ok (.goto 4, 3) := by decide +kernel
theorem dX5_priceOf_15 : decode cX5_priceOf 15 = .ok (.iconst 1, 1) := by decide +kernel
theorem dX5_priceOf_16 : decode cX5_priceOf 16 = .ok (.ireturn, 1) := by decide +kernel
set_option maxRecDepth 20000 in
theorem ggX6_init_X5_init : GoodIn wsX6_init wsX5_init := goodIn_r _ [20, 21, 2, 3, 22, 23, 24, 25, 26, 27, 28, 29, 30, 31, 32, 33, 34, 35, 36, 37, 38, 39, 40, 41, 42, 43, 44, 45, 46, 47, 48, 49, 50, 51, 52, 53, 54, 55, 56, 57, 58, 59, 60, 61, 62, 14, 63, 64, 65, 66, 11, 67, 68, 69, 70, 100, 101, 102, 103, 104, 105, 106, 71, 72, 73, 74, 75, 76, 107, 108, 109, 110, 111, 112, 113, 114, 115, 116, 117, 118, 119, 120, 121, 122, 123, 124, 125, 126, 127] (by decide +kernel) (by decide +kernel)
set_option maxRecDepth 20000 in
theorem gX6_init_X5_init : GoodIn wsX6_init (wsX5_init) := ggX6_init_X5_init
theorem dX6_init_0 : decode cX6_init 0 = .ok (.aload_n 0, 1) := by decide +kernel
theorem dX6_init_1 : decode cX6_init 1 = .ok (.invokespecial 1, 3) := by decide +kernel
theorem dX6_init_4 : decode cX6_init 4 = .ok (.aload_n 0, 1) := by decide +kernel
theorem dX6_init_5 : decode cX6_init 5 = .ok (.new 7, 3) := by decide +kernel
theorem dX6_init_8 : decode cX6_init 8 = .ok (.dup, 1) := by decide +kernel
theorem dX6_init_9 : decode cX6_init 9 = .ok (.invokespecial 9, 3) := by decide +kernel
theorem dX6_init_12 : decode cX6_init 12 = .ok (.putfield 10, 3) := by decide +kernel
theorem dX6_init_15 : decode cX6_init 15 = .ok (.aload_n 0, 1) := by decide +kernel
theorem dX6_init_16 : decode cX6_init 16 = .ok (.bipush 47, 2) := by decide +kernel
theorem dX6_init_18 : decode cX6_init 18 = .ok (.putfield 16, 3) := by decide +kernel
theorem dX6_init_21 : decode cX6_init 21 = .ok (.aload_n 0, 1) := by decide +kernel
theorem dX6_init_22 : decode cX6_init 22 = .ok (.iconst 0, 1) := by decide +kernel
theorem dX6_init_23 : decode cX6_init 23 = .ok (.anewarray 20, 3) := by decide +kernel
theorem dX6_init_26 : decode cX6_init 26 = .ok (.putfield 22, 3) := by decide +kernel
theorem dX6_init_29 : decode cX6_init 29 = .ok (.aload_n 0, 1) := by decide +kernel
theorem dX6_init_30 : decode cX6_init 30 = .ok (.iconst 3, 1) := by decide +kernel
theorem dX6_init_31 : decode cX6_init 31 = .ok (.newarray .float, 2) := by decide +kernel
theorem dX6_init_33 : decode cX6_init 33 = .ok (.putfield 26, 3) := by decide +kernel
theorem dX6_init_36 : decode cX6_init 36 = .ok (.aload_n 0, 1) := by decide +kernel
theorem dX6_init_37 : decode cX6_init 37 = .ok (.iconst 0, 1) := by decide +kernel
theorem dX6_init_38 : decode cX6_init 38 = .ok (.anewarray 20, 3) := by decide +kernel
theorem dX6_init_41 : decode cX6_init 41 = .ok (.putfield 30, 3) := by decide +kernel
theorem dX6_init_44 : decode cX6_init 44 = .ok (.aload_n 0, 1) := by decide +kernel
theorem dX6_init_45 : decode cX6_init 45 = .ok (.bipush 10, 2) := by decide +kernel
theorem dX6_init_47 : decode cX6_init 47 = .ok (.newarray .double, 2) := by decide +kernel
theorem dX6_init_49 : decode cX6_init 49 = .ok (.putfield 33, 3) := by decide +kernel
theorem dX6_init_52 : decode cX6_init 52 = .ok (.aload_n 0, 1) := by decide +kernel
theorem dX6_init_53 : decode cX6_init 53 = .ok (.aload_n 1, 1) := by decide +kernel
theorem dX6_init_54 : decode cX6_init 54 = .ok (.putfield 37, 3) := by decide +kernel
theorem dX6_init_57 : decode cX6_init 57 = .ok (.aload_n 0, 1) := by decide +kernel
theorem dX6_init_58 : decode cX6_init 58 = .ok (.iload_n 2, 1) := by decide +kernel
theorem dX6_init_59 : decode cX6_init 59 = .ok (.putfield 40, 3) := by decide +kernel
theorem dX6_init_62 : decode cX6_init 62 = .ok (.return_, 1) := by decide +kernel
set_option maxRecDepth 20000 in
theorem ggX6_draw_L_cell : GoodIn wsX6_draw wsL_cell := goodIn_r _ [5, 6] (by decide +kernel) (by decide +kernel)
set_option maxRecDepth 20000 in
theorem gX6_draw_L_cell_n43 : GoodIn wsX6_draw (wsL_cell) := ggX6_draw_L_cell
set_option maxRecDepth 20000 in
theorem ggX6_draw_L_below : GoodIn wsX6_draw wsL_below := goodIn_r _ [8, 9] (by decide +kernel) (by decide +kernel)
set_option maxRecDepth 20000 in
theorem gX6_draw_L_below_n49 : GoodIn wsX6_draw (wsL_below) := ggX6_draw_L_below
theorem dX6_draw_0 : decode cX6_draw 0 = .ok (.aload_n 0, 1) := by decide +kernel
theorem dX6_draw_1 : decode cX6_draw 1 = .ok (.getfield 37, 3) := by decide +kernel
theorem dX6_draw_4 : decode cX6_draw 4 = .ok (.aload_n 0, 1) := by decide +kernel
theorem dX6_draw_5 : decode cX6_draw 5 = .ok (.getfield 40, 3) := by decide +kernel
theorem dX6_draw_8 : decode cX6_draw 8 = .ok (.bipush 24, 2) := by decide +kernel
theorem dX6_draw_10 : decode cX6_draw 10 = .ok (.irem, 1) := by decide +kernel
theorem dX6_draw_11 : decode cX6_draw 11 = .ok (.invokestatic 43, 3) := by decide +kernel
theorem dX6_draw_14 : decode cX6_draw 14 = .ok (.aload_n 0, 1) := by decide +kernel
theorem dX6_draw_15 : decode cX6_draw 15 = .ok (.getfield 40, 3) := by decide +kernel
theorem dX6_draw_18 : decode cX6_draw 18 = .ok (.bipush 24, 2) := by decide +kernel
theorem dX6_draw_20 : decode cX6_draw 20 = .ok (.idiv, 1) := by decide +kernel
theorem dX6_draw_21 : decode cX6_draw 21 = .ok (.bipush 8, 2) := by decide +kernel
theorem dX6_draw_23 : decode cX6_draw 23 = .ok (.irem, 1) := by decide +kernel
theorem dX6_draw_24 : decode cX6_draw 24 = .ok (.ishr, 1) := by decide +kernel
theorem dX6_draw_25 : decode cX6_draw 25 = .ok (.sipush 419, 3) := by decide +kernel
theorem dX6_draw_28 : decode cX6_draw 28 = .ok (.aload_n 0, 1) := by decide +kernel
theorem dX6_draw_29 : decode cX6_draw 29 = .ok (.getfield 40, 3) := by decide +kernel
theorem dX6_draw_32 : decode cX6_draw 32 = .ok (.imul, 1) := by decide +kernel
theorem dX6_draw_33 : decode cX6_draw 33 = .ok (.iadd, 1) := by decide +kernel
theorem dX6_draw_34 : decode cX6_draw 34 = .ok (.iload_n 1, 1) := by decide +kernel
theorem dX6_draw_35 : decode cX6_draw 35 = .ok (.invokestatic 49, 3) := by decide +kernel
theorem dX6_draw_38 : decode cX6_draw 38 = .ok (.istore_n 2, 1) := by decide +kernel
theorem dX6_draw_39 : decode cX6_draw 39 = .ok (.aload_n 0, 1) := by decide +kernel
theorem dX6_draw_40 : decode cX6_draw 40 = .ok (.dup, 1) := by decide +kernel
theorem dX6_draw_41 : decode cX6_draw 41 = .ok (.getfield 40, 3) := by decide +kernel
theorem dX6_draw_44 : decode cX6_draw 44 = .ok (.iconst 1, 1) := by decide +kernel
theorem dX6_draw_45 : decode cX6_draw 45 = .ok (.iadd, 1) := by decide +kernel
theorem dX6_draw_46 : decode cX6_draw 46 = .ok (.putfield 40, 3) := by decide +kernel
theorem dX6_draw_49 : decode cX6_draw 49 = .ok (.iload_n 2, 1) := by decide +kernel
theorem dX6_draw_50 : decode cX6_draw 50 = .ok (.ireturn, 1) := by decide +kernel
theorem dX6_plus_0 : decode cX6_plus 0 = .ok (.aload_n 0, 1) := by decide +kernel
theorem dX6_plus_1 : decode cX6_plus 1 = .ok (.arraylength, 1) := by decide +kernel
theorem dX6_plus_2 : decode cX6_plus 2 = .ok (.iconst 1, 1) := by decide +kernel
theorem dX6_plus_3 : decode cX6_plus 3 = .ok (.iadd, 1) := by decide +kernel
theorem dX6_plus_4 : decode cX6_plus 4 = .ok (.anewarray 20, 3) := by decide +kernel
theorem dX6_plus_7 : decode cX6_plus 7 = .ok (.astore_n 2, 1) := by decide +kernel
theorem dX6_plus_8 : decode cX6_plus 8 = .ok (.aload_n 0, 1) := by decide +kernel
theorem dX6_plus_9 : decode cX6_plus 9 = .ok (.iconst 0, 1) := by decide +kernel
theorem dX6_plus_10 : decode cX6_plus 10 = .ok (.aload_n 2, 1) := by decide +kernel
theorem dX6_plus_11 : decode cX6_plus 11 = .ok (.iconst 0, 1) := by decide +kernel
theorem dX6_plus_12 : decode cX6_plus 12 = .ok (.aload_n 0, 1) := by decide +kernel
theorem dX6_plus_13 : decode cX6_plus 13 = .ok (.arraylength, 1) := by decide +kernel
theorem dX6_plus_14 : decode cX6_plus 14 = .ok (.invokestatic 53, 3) := by decide +kernel
theorem dX6_plus_17 : decode cX6_plus 17 = .ok (.aload_n 2, 1) := by decide +kernel
theorem dX6_plus_18 : decode cX6_plus 18 = .ok (.aload_n 0, 1) := by decide +kernel
theorem dX6_plus_19 : decode cX6_plus 19 = .ok (.arraylength, 1) := by decide +kernel
theorem dX6_plus_20 : decode cX6_plus 20 = .ok (.aload_n 1, 1) := by decide +kernel
theorem dX6_plus_21 : decode cX6_plus 21 = .ok (.aastore, 1) := by decide +kernel
theorem dX6_plus_22 : decode cX6_plus 22 = .ok (.aload_n 2, 1) := by decide +kernel
theorem dX6_plus_23 : decode cX6_plus 23 = .ok (.areturn, 1) := by decide +kernel
theorem dX6_age_0 : decode cX6_age 0 = .ok (.iload_n 1, 1) := by decide +kernel
theorem dX6_age_1 : decode cX6_age 1 = .ok (.bipush 48, 2) := by decide +kernel
theorem dX6_age_3 : decode cX6_age 3 = .ok (.idiv, 1) := by decide +kernel
theorem dX6_age_4 : decode cX6_age 4 = .ok (.aload_n 0, 1) := by decide +kernel
theorem dX6_age_5 : decode cX6_age 5 = .ok (.getfield 59, 3) := by decide +kernel
theorem dX6_age_8 : decode cX6_age 8 = .ok (.iadd, 1) := by decide +kernel
theorem dX6_age_9 : decode cX6_age 9 = .ok (.bipush 30, 2) := by decide +kernel
theorem dX6_age_11 : decode cX6_age 11 = .ok (.irem, 1) := by decide +kernel
theorem dX6_age_12 : decode cX6_age 12 = .ok (.ireturn, 1) := by decide +kernel
set_option maxRecDepth 20000 in
theorem ggX6_spring_X6_age : GoodIn wsX6_spring wsX6_age := goodIn_r _ [5, 6, 7, 8, 9, 10, 11, 12, 13, 14, 15, 16, 17, 18, 19, 20, 21, 22, 23, 24, 25, 26, 27, 28, 29] (by decide +kernel) (by decide +kernel)
set_option maxRecDepth 20000 in
theorem gX6_spring_X6_age : GoodIn wsX6_spring (wsV RX6 62 RX6 yX6_age wsX6_age) := goodIn_app (goodIn_of _ (by decide +kernel)) ggX6_spring_X6_age
theorem dX6_spring_0 : decode cX6_spring 0 = .ok (.aload_n 0, 1) := by decide +kernel
theorem dX6_spring_1 : decode cX6_spring 1 = .ok (.iload_n 1, 1) := by decide +kernel
theorem dX6_spring_2 : decode cX6_spring 2 = .ok (.invokevirtual 62, 3) := by decide +kernel
theorem dX6_spring_5 : decode cX6_spring 5 = .ok (.istore_n 2, 1) := by decide +kernel
theorem dX6_spring_6 : decode cX6_spring 6 = .ok (.iload_n 2, 1) := by decide +kernel
theorem dX6_spring_7 : decode cX6_spring 7 = .ok (.bipush 15, 2) := by decide +kernel
theorem dX6_spring_9 : decode cX6_spring 9 = .ok (.if_icmp .le 10, 3) := by decide +kernel
theorem dX6_spring_12 : decode cX6_spring 12 = .ok (.iload_n 2, 1) := by decide +kernel
theorem dX6_spring_13 : decode cX6_spring 13 = .ok (.bipush 15, 2) := by decide +kernel
theorem dX6_spring_15 : decode cX6_spring 15 = .ok (.isub, 1) := by decide +kernel
theorem dX6_spring_16 : decode cX6_spring 16 = .ok (.goto 7, 3) := by decide +kernel
theorem dX6_spring_19 : decode cX6_spring 19 = .ok (.bipush 15, 2) := by decide +kernel
theorem dX6_spring_21 : decode cX6_spring 21 = .ok (.iload_n 2, 1) := by decide +kernel
theorem dX6_spring_22 : decode cX6_spring 22 = .ok (.isub, 1) := by decide +kernel
theorem dX6_spring_23 : decode cX6_spring 23 = .ok (.istore_n 3, 1) := by decide +kernel
theorem dX6_spring_24 : decode cX6_spring 24 = .ok (.iload_n 3, 1) := by decide +kernel
theorem dX6_spring_25 : decode cX6_spring 25 = .ok (.bipush 8, 2) := by decide +kernel
theorem dX6_spring_27 : decode cX6_spring 27 = .ok (.if_icmp .ge 7, 3) := by decide +kernel
theorem dX6_spring_30 : decode cX6_spring 30 = .ok (.iload_n 3, 1) := by decide +kernel
theorem dX6_spring_31 : decode cX6_spring 31 = .ok (.goto 17, 3) := by decide +kernel
theorem dX6_spring_34 : decode cX6_spring 34 = .ok (.iload_n 2, 1) := by decide +kernel
theorem dX6_spring_35 : decode cX6_spring 35 = .ok (.bipush 15, 2) := by decide +kernel
theorem dX6_spring_37 : decode cX6_spring 37 = .ok (.if_icmp .ge 7, 3) := by decide +kernel
theorem dX6_spring_40 : decode cX6_spring 40 = .ok (.iload_n 2, 1) := by decide +kernel
theorem dX6_spring_41 : decode cX6_spring 41 = .ok (.goto 7, 3) := by decide +kernel
theorem dX6_spring_44 : decode cX6_spring 44 = .ok (.bipush 30, 2) := by decide +kernel
theorem dX6_spring_46 : decode cX6_spring 46 = .ok (.iload_n 2, 1) := by decide +kernel
theorem dX6_spring_47 : decode cX6_spring 47 = .ok (.isub, 1) := by decide +kernel
theorem dX6_spring_48 : decode cX6_spring 48 = .ok (.ireturn, 1) := by decide +kernel
set_option maxRecDepth 20000 in
theorem ggX6_sea_X6_spring : GoodIn wsX6_sea wsX6_spring := goodIn_r _ [12, 13, 14, 15, 11, 16, 17, 18, 19, 20, 21, 22, 23, 24, 25, 26, 27, 28, 29, 30, 31, 32, 33, 34, 35, 36, 37, 38, 39, 40] (by decide +kernel) (by decide +kernel)
set_option maxRecDepth 20000 in
theorem gX6_sea_X6_spring : GoodIn wsX6_sea (wsV RX6 70 RX6 yX6_spring wsX6_spring) := goodIn_app (goodIn_of _ (by decide +kernel)) ggX6_sea_X6_spring
theorem dX6_sea_0 : decode cX6_sea 0 = .ok (.ldc2_w 66, 3) := by decide +kernel
theorem dX6_sea_3 : decode cX6_sea 3 = .ok (.ldc2_w 68, 3) := by decide +kernel
theorem dX6_sea_6 : decode cX6_sea 6 = .ok (.aload_n 0, 1) := by decide +kernel
theorem dX6_sea_7 : decode cX6_sea 7 = .ok (.iload_n 1, 1) := by decide +kernel
theorem dX6_sea_8 : decode cX6_sea 8 = .ok (.invokevirtual 70, 3) := by decide +kernel
theorem dX6_sea_11 : decode cX6_sea 11 = .ok (.i2d, 1) := by decide +kernel
theorem dX6_sea_12 : decode cX6_sea 12 = .ok (.dmul, 1) := by decide +kernel
theorem dX6_sea_13 : decode cX6_sea 13 = .ok (.dsub, 1) := by decide +kernel
theorem dX6_sea_14 : decode cX6_sea 14 = .ok (.dstore_n 2, 1) := by decide +kernel
theorem dX6_sea_15 : decode cX6_sea 15 = .ok (.iload_n 1, 1) := by decide +kernel
theorem dX6_sea_16 : decode cX6_sea 16 = .ok (.i2d, 1) := by decide +kernel
theorem dX6_sea_17 : decode cX6_sea 17 = .ok (.dstore 4, 2) := by decide +kernel
theorem dX6_sea_19 : decode cX6_sea 19 = .ok (.dload 4, 2) := by decide +kernel
theorem dX6_sea_21 : decode cX6_sea 21 = .ok (.ldc2_w 73, 3) := by decide +kernel
theorem dX6_sea_24 : decode cX6_sea 24 = .ok (.dcmp .l, 1) := by decide +kernel
theorem dX6_sea_25 : decode cX6_sea 25 = .ok (.ifCond .lt 14, 3) := by decide +kernel
theorem dX6_sea_28 : decode cX6_sea 28 = .ok (.dload 4, 2) := by decide +kernel
theorem dX6_sea_30 : decode cX6_sea 30 = .ok (.ldc2_w 73, 3) := by decide +kernel
theorem dX6_sea_33 : decode cX6_sea 33 = .ok (.dsub, 1) := by decide +kernel
theorem dX6_sea_34 : decode cX6_sea 34 = .ok (.dstore 4, 2) := by decide +kernel
theorem dX6_sea_36 : decode cX6_sea 36 = .ok (.goto (-17), 3) := by decide +kernel
theorem dX6_sea_39 : decode cX6_sea 39 = .ok (.ldc2_w 73, 3) := by decide +kernel
theorem dX6_sea_42 : decode cX6_sea 42 = .ok (.dload 4, 2) := by decide +kernel
theorem dX6_sea_44 : decode cX6_sea 44 = .ok (.dsub, 1) := by decide +kernel
theorem dX6_sea_45 : decode cX6_sea 45 = .ok (.ldc2_w 75, 3) := by decide +kernel
theorem dX6_sea_48 : decode cX6_sea 48 = .ok (.ddiv, 1) := by decide +kernel
theorem dX6_sea_49 : decode cX6_sea 49 = .ok (.dstore 6, 2) := by decide +kernel
theorem dX6_sea_51 : decode cX6_sea 51 = .ok (.dload 4, 2) := by decide +kernel
theorem dX6_sea_53 : decode cX6_sea 53 = .ok (.ldc2_w 77, 3) := by decide +kernel
theorem dX6_sea_56 : decode cX6_sea 56 = .ok (.dcmp .g, 1) := by decide +kernel
theorem dX6_sea_57 : decode cX6_sea 57 = .ok (.ifCond .ge 11, 3) := by decide +kernel
theorem dX6_sea_60 : decode cX6_sea 60 = .ok (.dload 4, 2) := by decide +kernel
theorem dX6_sea_62 : decode cX6_sea 62 = .ok (.ldc2_w 77, 3) := by decide +kernel
theorem dX6_sea_65 : decode cX6_sea 65 = .ok (.ddiv, 1) := by decide +kernel
theorem dX6_sea_66 : decode cX6_sea 66 = .ok (.dstore 6, 2) := by decide +kernel
theorem dX6_sea_68 : decode cX6_sea 68 = .ok (.aload_n 0, 1) := by decide +kernel
theorem dX6_sea_69 : decode cX6_sea 69 = .ok (.getfield 79, 3) := by decide +kernel
theorem dX6_sea_72 : decode cX6_sea 72 = .ok (.dload_n 2, 1) := by decide +kernel
theorem dX6_sea_73 : decode cX6_sea 73 = .ok (.dload 6, 2) := by decide +kernel
theorem dX6_sea_75 : decode cX6_sea 75 = .ok (.dmul, 1) := by decide +kernel
theorem dX6_sea_76 : decode cX6_sea 76 = .ok (.dadd, 1) := by decide +kernel
theorem dX6_sea_77 : decode cX6_sea 77 = .ok (.dstore 8, 2) := by decide +kernel
theorem dX6_sea_79 : decode cX6_sea 79 = .ok (.dload 8, 2) := by decide +kernel
theorem dX6_sea_81 : decode cX6_sea 81 = .ok (.dload_n 2, 1) := by decide +kernel
theorem dX6_sea_82 : decode cX6_sea 82 = .ok (.ldc2_w 83, 3) := by decide +kernel
theorem dX6_sea_85 : decode cX6_sea 85 = .ok (.dmul, 1) := by decide +kernel
theorem dX6_sea_86 : decode cX6_sea 86 = .ok (.dsub, 1) := by decide +kernel
theorem dX6_sea_87 : decode cX6_sea 87 = .ok (.dreturn, 1) := by decide +kernel
theorem dX6_area_0 : decode cX6_area 0 = .ok (.ldc2_w 85, 3) := by decide +kernel
theorem dX6_area_3 : decode cX6_area 3 = .ok (.aload_n 0, 1) := by decide +kernel
theorem dX6_area_4 : decode cX6_area 4 = .ok (.getfield 87, 3) := by decide +kernel
theorem dX6_area_7 : decode cX6_area 7 = .ok (.f2d, 1) := by decide +kernel
theorem dX6_area_8 : decode cX6_area 8 = .ok (.dsub, 1) := by decide +kernel
theorem dX6_area_9 : decode cX6_area 9 = .ok (.dreturn, 1) := by decide +kernel
theorem dX6_isAwake_0 : decode cX6_isAwake 0 = .ok (.aload_n 0, 1) := by decide +kernel
theorem dX6_isAwake_1 : decode cX6_isAwake 1 = .ok (.getfield 91, 3) := by decide +kernel
theorem dX6_isAwake_4 : decode cX6_isAwake 4 = .ok (.bipush 48, 2) := by decide +kernel
theorem dX6_isAwake_6 : decode cX6_isAwake 6 = .ok (.irem, 1) := by decide +kernel
theorem dX6_isAwake_7 : decode cX6_isAwake 7 = .ok (.istore_n 1, 1) := by decide +kernel
theorem dX6_isAwake_8 : decode cX6_isAwake 8 = .ok (.aload_n 0, 1) := by decide +kernel
theorem dX6_isAwake_9 : decode cX6_isAwake 9 = .ok (.getfield 94, 3) := by decide +kernel
theorem dX6_isAwake_12 : decode cX6_isAwake 12 = .ok (.istore_n 2, 1) := by decide +kernel
theorem dX6_isAwake_13 : decode cX6_isAwake 13 = .ok (.iload_n 2, 1) := by decide +kernel
theorem dX6_isAwake_14 : decode cX6_isAwake 14 = .ok (.iload_n 1, 1) := by decide +kernel
theorem dX6_isAwake_15 : decode cX6_isAwake 15 = .ok (.if_icmp .ne 5, 3) := by decide +kernel
theorem dX6_isAwake_18 : decode cX6_isAwake 18 = .ok (.iconst 1, 1) := by decide +kernel
theorem dX6_isAwake_19 : decode cX6_isAwake 19 = .ok (.ireturn, 1) := by decide +kernel
theorem dX6_isAwake_20 : decode cX6_isAwake 20 = .ok (.iload_n 2, 1) := by decide +kernel
theorem dX6_isAwake_21 : decode cX6_isAwake 21 = .ok (.aload_n 0, 1) := by decide +kernel
theorem dX6_isAwake_22 : decode cX6_isAwake 22 = .ok (.getfield 16, 3) := by decide +kernel
theorem dX6_isAwake_25 : decode cX6_isAwake 25 = .ok (.if_icmp .ne 5, 3) := by decide +kernel
theorem dX6_isAwake_28 : decode cX6_isAwake 28 = .ok (.iconst 0, 1) := by decide +kernel
theorem dX6_isAwake_29 : decode cX6_isAwake 29 = .ok (.ireturn, 1) := by decide +kernel
theorem dX6_isAwake_30 : decode cX6_isAwake 30 = .ok (.iload_n 2, 1) := by decide +kernel
theorem dX6_isAwake_31 : decode cX6_isAwake 31 = .ok (.iconst 1, 1) := by decide +kernel
theorem dX6_isAwake_32 : decode cX6_isAwake 32 = .ok (.iadd, 1) := by decide +kernel
theorem dX6_isAwake_33 : decode cX6_isAwake 33 = .ok (.bipush 48, 2) := by decide +kernel
theorem dX6_isAwake_35 : decode cX6_isAwake 35 = .ok (.irem, 1) := by decide +kernel
theorem dX6_isAwake_36 : decode cX6_isAwake 36 = .ok (.istore_n 2, 1) := by decide +kernel
theorem dX6_isAwake_37 : decode cX6_isAwake 37 = .ok (.goto (-24), 3) := by decide +kernel
set_option maxRecDepth 20000 in
theorem ggX6_go_X6_sea : GoodIn wsX6_go wsX6_sea := goodIn_r _ [26, 19, 11, 27, 28, 29, 30, 4, 31, 32, 33, 25, 34, 35, 36, 37, 38, 39, 51, 52, 53, 54, 55, 56, 57, 58, 59, 60, 61, 62, 63, 64, 65, 66, 67, 68, 69, 70, 71, 72, 73] (by decide +kernel) (by decide +kernel)
set_option maxRecDepth 20000 in
theorem gX6_go_X6_sea : GoodIn wsX6_go (wsV RX6 97 RX6 yX6_sea wsX6_sea) := goodIn_app (goodIn_of _ (by decide +kernel)) ggX6_go_X6_sea
set_option maxRecDepth 20000 in
theorem ggX6_go_X6_area : GoodIn wsX6_go wsX6_area := goodIn_r _ [43, 44, 5, 51, 52, 53, 54, 55, 56, 57, 58, 59, 60, 61, 62, 63, 64, 65, 66, 67, 68, 69, 70, 71, 72, 73] (by decide +kernel) (by decide +kernel)
set_option maxRecDepth 20000 in
theorem gX6_go_X6_area : GoodIn wsX6_go (wsV RX6 107 RX6 yX6_area wsX6_area) := goodIn_app (goodIn_of _ (by decide +kernel)) ggX6_go_X6_area
set_option maxRecDepth 20000 in
theorem ggX6_go_X6_isAwake : GoodIn wsX6_go wsX6_isAwake := goodIn_r _ [48, 1, 49, 50, 51, 52, 53, 54, 55, 56, 57, 58, 59, 60, 61, 62, 63, 64, 65, 66, 67, 68, 69, 70, 71, 72, 73] (by decide +kernel) (by decide +kernel)
set_option maxRecDepth 20000 in
theorem gX6_go_X6_isAwake : GoodIn wsX6_go (wsV RX6 126 RX6 yX6_isAwake wsX6_isAwake) := goodIn_app (goodIn_of _ (by decide +kernel)) ggX6_go_X6_isAwake
set_option maxRecDepth 20000 in
theorem ggX6_go_X6_age : GoodIn wsX6_go wsX6_age := goodIn_r _ [38, 39, 51, 52, 53, 54, 55, 56, 57, 58, 59, 60, 61, 62, 63, 64, 65, 66, 67, 68, 69, 70, 71, 72, 73] (by decide +kernel) (by decide +kernel)
set_option maxRecDepth 20000 in
theorem gX6_go_X6_age : GoodIn wsX6_go (wsV RX6 62 RX6 yX6_age wsX6_age) := goodIn_app (goodIn_of _ (by decide +kernel)) ggX6_go_X6_age
theorem dX6_go_0 : decode cX6_go 0 = .ok (.aload_n 0, 1) := by decide +kernel
theorem dX6_go_1 : decode cX6_go 1 = .ok (.aload_n 0, 1) := by decide +kernel
theorem dX6_go_2 : decode cX6_go 2 = .ok (.getfield 91, 3) := by decide +kernel
theorem dX6_go_5 : decode cX6_go 5 = .ok (.invokevirtual 97, 3) := by decide +kernel
theorem dX6_go_8 : decode cX6_go 8 = .ok (.dstore_n 1, 1) := by decide +kernel
theorem dX6_go_9 : decode cX6_go 9 = .ok (.aload_n 0, 1) := by decide +kernel
theorem dX6_go_10 : decode cX6_go 10 = .ok (.getfield 101, 3) := by decide +kernel
theorem dX6_go_13 : decode cX6_go 13 = .ok (.ifCond .le 74, 3) := by decide +kernel
theorem dX6_go_16 : decode cX6_go 16 = .ok (.dload_n 1, 1) := by decide +kernel
theorem dX6_go_17 : decode cX6_go 17 = .ok (.aload_n 0, 1) := by decide +kernel
theorem dX6_go_18 : decode cX6_go 18 = .ok (.getfield 104, 3) := by decide +kernel
theorem dX6_go_21 : decode cX6_go 21 = .ok (.dcmp .l, 1) := by decide +kernel
theorem dX6_go_22 : decode cX6_go 22 = .ok (.ifCond .le 65, 3) := by decide +kernel
theorem dX6_go_25 : decode cX6_go 25 = .ok (.aload_n 0, 1) := by decide +kernel
theorem dX6_go_26 : decode cX6_go 26 = .ok (.getfield 101, 3) := by decide +kernel
theorem dX6_go_29 : decode cX6_go 29 = .ok (.i2d, 1) := by decide +kernel
theorem dX6_go_30 : decode cX6_go 30 = .ok (.dload_n 1, 1) := by decide +kernel
theorem dX6_go_31 : decode cX6_go 31 = .ok (.aload_n 0, 1) := by decide +kernel
theorem dX6_go_32 : decode cX6_go 32 = .ok (.getfield 104, 3) := by decide +kernel
theorem dX6_go_35 : decode cX6_go 35 = .ok (.dsub, 1) := by decide +kernel
theorem dX6_go_36 : decode cX6_go 36 = .ok (.dmul, 1) := by decide +kernel
theorem dX6_go_37 : decode cX6_go 37 = .ok (.ldc2_w 83, 3) := by decide +kernel
theorem dX6_go_40 : decode cX6_go 40 = .ok (.dmul, 1) := by decide +kernel
theorem dX6_go_41 : decode cX6_go 41 = .ok (.dstore_n 3, 1) := by decide +kernel
theorem dX6_go_42 : decode cX6_go 42 = .ok (.aload_n 0, 1) := by decide +kernel
theorem dX6_go_43 : decode cX6_go 43 = .ok (.aload_n 0, 1) := by decide +kernel
theorem dX6_go_44 : decode cX6_go 44 = .ok (.getfield 104, 3) := by decide +kernel
theorem dX6_go_47 : decode cX6_go 47 = .ok (.dload_n 3, 1) := by decide +kernel
theorem dX6_go_48 : decode cX6_go 48 = .ok (.aload_n 0, 1) := by decide +kernel
theorem dX6_go_49 : decode cX6_go 49 = .ok (.invokevirtual 107, 3) := by decide +kernel
theorem dX6_go_52 : decode cX6_go 52 = .ok (.ddiv, 1) := by decide +kernel
theorem dX6_go_53 : decode cX6_go 53 = .ok (.dadd, 1) := by decide +kernel
theorem dX6_go_54 : decode cX6_go 54 = .ok (.putfield 104, 3) := by decide +kernel
theorem dX6_go_57 : decode cX6_go 57 = .ok (.aload_n 0, 1) := by decide +kernel
theorem dX6_go_58 : decode cX6_go 58 = .ok (.aload_n 0, 1) := by decide +kernel
theorem dX6_go_59 : decode cX6_go 59 = .ok (.getfield 87, 3) := by decide +kernel
theorem dX6_go_62 : decode cX6_go 62 = .ok (.dload_n 3, 1) := by decide +kernel
theorem dX6_go_63 : decode cX6_go 63 = .ok (.d2f, 1) := by decide +kernel
theorem dX6_go_64 : decode cX6_go 64 = .ok (.ldc 111, 2) := by decide +kernel
theorem dX6_go_66 : decode cX6_go 66 = .ok (.fdiv, 1) := by decide +kernel
theorem dX6_go_67 : decode cX6_go 67 = .ok (.fadd, 1) := by decide +kernel
theorem dX6_go_68 : decode cX6_go 68 = .ok (.putfield 87, 3) := by decide +kernel
theorem dX6_go_71 : decode cX6_go 71 = .ok (.aload_n 0, 1) := by decide +kernel
theorem dX6_go_72 : decode cX6_go 72 = .ok (.getfield 87, 3) := by decide +kernel
theorem dX6_go_75 : decode cX6_go 75 = .ok (.ldc 112, 2) := by decide +kernel
theorem dX6_go_77 : decode cX6_go 77 = .ok (.fcmp .l, 1) := by decide +kernel
theorem dX6_go_78 : decode cX6_go 78 = .ok (.ifCond .le 9, 3) := by decide +kernel
theorem dX6_go_81 : decode cX6_go 81 = .ok (.aload_n 0, 1) := by decide +kernel
theorem dX6_go_82 : decode cX6_go 82 = .ok (.ldc 112, 2) := by decide +kernel
theorem dX6_go_84 : decode cX6_go 84 = .ok (.putfield 87, 3) := by decide +kernel
theorem dX6_go_87 : decode cX6_go 87 = .ok (.aload_n 0, 1) := by decide +kernel
theorem dX6_go_88 : decode cX6_go 88 = .ok (.getfield 104, 3) := by decide +kernel
theorem dX6_go_91 : decode cX6_go 91 = .ok (.dload_n 1, 1) := by decide +kernel
theorem dX6_go_92 : decode cX6_go 92 = .ok (.ldc2_w 113, 3) := by decide +kernel
theorem dX6_go_95 : decode cX6_go 95 = .ok (.dcmp .l, 1) := by decide +kernel
theorem dX6_go_96 : decode cX6_go 96 = .ok (.ifCond .le 7, 3) := by decide +kernel
theorem dX6_go_99 : decode cX6_go 99 = .ok (.dload_n 1, 1) := by decide +kernel
theorem dX6_go_100 : decode cX6_go 100 = .ok (.goto 6, 3) := by decide +kernel
theorem dX6_go_103 : decode cX6_go 103 = .ok (.ldc2_w 113, 3) := by decide +kernel
theorem dX6_go_106 : decode cX6_go 106 = .ok (.dsub, 1) := by decide +kernel
theorem dX6_go_107 : decode cX6_go 107 = .ok (.dstore_n 3, 1) := by decide +kernel
theorem dX6_go_108 : decode cX6_go 108 = .ok (.aload_n 0, 1) := by decide +kernel
theorem dX6_go_109 : decode cX6_go 109 = .ok (.dconst 0, 1) := by decide +kernel
theorem dX6_go_110 : decode cX6_go 110 = .ok (.putfield 115, 3) := by decide +kernel
theorem dX6_go_113 : decode cX6_go 113 = .ok (.aload_n 0, 1) := by decide +kernel
theorem dX6_go_114 : decode cX6_go 114 = .ok (.getfield 118, 3) := by decide +kernel
theorem dX6_go_117 : decode cX6_go 117 = .ok (.ifCond .le 48, 3) := by decide +kernel
theorem dX6_go_120 : decode cX6_go 120 = .ok (.dload_n 3, 1) := by decide +kernel
theorem dX6_go_121 : decode cX6_go 121 = .ok (.ldc2_w 83, 3) := by decide +kernel
theorem dX6_go_124 : decode cX6_go 124 = .ok (.dcmp .l, 1) := by decide +kernel
theorem dX6_go_125 : decode cX6_go 125 = .ok (.ifCond .lt 40, 3) := by decide +kernel
theorem dX6_go_128 : decode cX6_go 128 = .ok (.aload_n 0, 1) := by decide +kernel
theorem dX6_go_129 : decode cX6_go 129 = .ok (.getfield 118, 3) := by decide +kernel
theorem dX6_go_132 : decode cX6_go 132 = .ok (.i2d, 1) := by decide +kernel
theorem dX6_go_133 : decode cX6_go 133 = .ok (.dload_n 3, 1) := by decide +kernel
theorem dX6_go_134 : decode cX6_go 134 = .ok (.dmul, 1) := by decide +kernel
theorem dX6_go_135 : decode cX6_go 135 = .ok (.ldc2_w 68, 3) := by decide +kernel
theorem dX6_go_138 : decode cX6_go 138 = .ok (.dmul, 1) := by decide +kernel
theorem dX6_go_139 : decode cX6_go 139 = .ok (.dstore 5, 2) := by decide +kernel
theorem dX6_go_141 : decode cX6_go 141 = .ok (.aload_n 0, 1) := by decide +kernel
theorem dX6_go_142 : decode cX6_go 142 = .ok (.aload_n 0, 1) := by decide +kernel
theorem dX6_go_143 : decode cX6_go 143 = .ok (.getfield 104, 3) := by decide +kernel
theorem dX6_go_146 : decode cX6_go 146 = .ok (.dload 5, 2) := by decide +kernel
theorem dX6_go_148 : decode cX6_go 148 = .ok (.aload_n 0, 1) := by decide +kernel
theorem dX6_go_149 : decode cX6_go 149 = .ok (.invokevirtual 107, 3) := by decide +kernel
theorem dX6_go_152 : decode cX6_go 152 = .ok (.ddiv, 1) := by decide +kernel
theorem dX6_go_153 : decode cX6_go 153 = .ok (.dsub, 1) := by decide +kernel
theorem dX6_go_154 : decode cX6_go 154 = .ok (.putfield 104, 3) := by decide +kernel
theorem dX6_go_157 : decode cX6_go 157 = .ok (.aload_n 0, 1) := by decide +kernel
theorem dX6_go_158 : decode cX6_go 158 = .ok (.dload 5, 2) := by decide +kernel
theorem dX6_go_160 : decode cX6_go 160 = .ok (.dload_n 3, 1) := by decide +kernel
theorem dX6_go_161 : decode cX6_go 161 = .ok (.dmul, 1) := by decide +kernel
theorem dX6_go_162 : decode cX6_go 162 = .ok (.putfield 115, 3) := by decide +kernel
theorem dX6_go_165 : decode cX6_go 165 = .ok (.aload_n 0, 1) := by decide +kernel
theorem dX6_go_166 : decode cX6_go 166 = .ok (.getfield 121, 3) := by decide +kernel
theorem dX6_go_169 : decode cX6_go 169 = .ok (.ifCond .eq 51, 3) := by decide +kernel
theorem dX6_go_172 : decode cX6_go 172 = .ok (.aload_n 0, 1) := by decide +kernel
theorem dX6_go_173 : decode cX6_go 173 = .ok (.getfield 104, 3) := by decide +kernel
theorem dX6_go_176 : decode cX6_go 176 = .ok (.dload_n 1, 1) := by decide +kernel
theorem dX6_go_177 : decode cX6_go 177 = .ok (.dsub, 1) := by decide +kernel
theorem dX6_go_178 : decode cX6_go 178 = .ok (.dconst 1, 1) := by decide +kernel
theorem dX6_go_179 : decode cX6_go 179 = .ok (.dcmp .l, 1) := by decide +kernel
theorem dX6_go_180 : decode cX6_go 180 = .ok (.ifCond .lt 40, 3) := by decide +kernel
theorem dX6_go_183 : decode cX6_go 183 = .ok (.aload_n 0, 1) := by decide +kernel
theorem dX6_go_184 : decode cX6_go 184 = .ok (.dup, 1) := by decide +kernel
theorem dX6_go_185 : decode cX6_go 185 = .ok (.getfield 104, 3) := by decide +kernel
theorem dX6_go_188 : decode cX6_go 188 = .ok (.ldc2_w 68, 3) := by decide +kernel
theorem dX6_go_191 : decode cX6_go 191 = .ok (.dsub, 1) := by decide +kernel
theorem dX6_go_192 : decode cX6_go 192 = .ok (.putfield 104, 3) := by decide +kernel
theorem dX6_go_195 : decode cX6_go 195 = .ok (.aload_n 0, 1) := by decide +kernel
theorem dX6_go_196 : decode cX6_go 196 = .ok (.aload_n 0, 1) := by decide +kernel
theorem dX6_go_197 : decode cX6_go 197 = .ok (.getfield 87, 3) := by decide +kernel
theorem dX6_go_200 : decode cX6_go 200 = .ok (.ldc 125, 2) := by decide +kernel
theorem dX6_go_202 : decode cX6_go 202 = .ok (.fcmp .g, 1) := by decide +kernel
theorem dX6_go_203 : decode cX6_go 203 = .ok (.ifCond .ge 7, 3) := by decide +kernel
theorem dX6_go_206 : decode cX6_go 206 = .ok (.fconst 0, 1) := by decide +kernel
theorem dX6_go_207 : decode cX6_go 207 = .ok (.goto 10, 3) := by decide +kernel
theorem dX6_go_210 : decode cX6_go 210 = .ok (.aload_n 0, 1) := by decide +kernel
theorem dX6_go_211 : decode cX6_go 211 = .ok (.getfield 87, 3) := by decide +kernel
theorem dX6_go_214 : decode cX6_go 214 = .ok (.ldc 125, 2) := by decide +kernel
theorem dX6_go_216 : decode cX6_go 216 = .ok (.fsub, 1) := by decide +kernel
theorem dX6_go_217 : decode cX6_go 217 = .ok (.putfield 87, 3) := by decide +kernel
theorem dX6_go_220 : decode cX6_go 220 = .ok (.aload_n 0, 1) := by decide +kernel
theorem dX6_go_221 : decode cX6_go 221 = .ok (.getfield 115, 3) := by decide +kernel
theorem dX6_go_224 : decode cX6_go 224 = .ok (.dstore 5, 2) := by decide +kernel
theorem dX6_go_226 : decode cX6_go 226 = .ok (.iconst 0, 1) := by decide +kernel
theorem dX6_go_227 : decode cX6_go 227 = .ok (.istore 7, 2) := by decide +kernel
theorem dX6_go_229 : decode cX6_go 229 = .ok (.iload 7, 2) := by decide +kernel
theorem dX6_go_231 : decode cX6_go 231 = .ok (.aload_n 0, 1) := by decide +kernel
theorem dX6_go_232 : decode cX6_go 232 = .ok (.getfield 22, 3) := by decide +kernel
theorem dX6_go_235 : decode cX6_go 235 = .ok (.arraylength, 1) := by decide +kernel
theorem dX6_go_236 : decode cX6_go 236 = .ok (.if_icmp .ge 338, 3) := by decide +kernel
theorem dX6_go_239 : decode cX6_go 239 = .ok (.aload_n 0, 1) := by decide +kernel
theorem dX6_go_240 : decode cX6_go 240 = .ok (.getfield 22, 3) := by decide +kernel
theorem dX6_go_243 : decode cX6_go 243 = .ok (.iload 7, 2) := by decide +kernel
theorem dX6_go_245 : decode cX6_go 245 = .ok (.aaload, 1) := by decide +kernel
theorem dX6_go_246 : decode cX6_go 246 = .ok (.astore 8, 2) := by decide +kernel
theorem dX6_go_248 : decode cX6_go 248 = .ok (.aload 8, 2) := by decide +kernel
theorem dX6_go_250 : decode cX6_go 250 = .ok (.iconst 1, 1) := by decide +kernel
theorem dX6_go_251 : decode cX6_go 251 = .ok (.iaload, 1) := by decide +kernel
theorem dX6_go_252 : decode cX6_go 252 = .ok (.ifCond .le 26, 3) := by decide +kernel
theorem dX6_go_255 : decode cX6_go 255 = .ok (.aload 8, 2) := by decide +kernel
theorem dX6_go_257 : decode cX6_go 257 = .ok (.iconst 1, 1) := by decide +kernel
theorem dX6_go_258 : decode cX6_go 258 = .ok (.dup2, 1) := by decide +kernel
theorem dX6_go_259 : decode cX6_go 259 = .ok (.iaload, 1) := by decide +kernel
theorem dX6_go_260 : decode cX6_go 260 = .ok (.iconst 1, 1) := by decide +kernel
theorem dX6_go_261 : decode cX6_go 261 = .ok (.isub, 1) := by decide +kernel
theorem dX6_go_262 : decode cX6_go 262 = .ok (.dup_x2, 1) := by decide +kernel
theorem dX6_go_263 : decode cX6_go 263 = .ok (.iastore, 1) := by decide +kernel
theorem dX6_go_264 : decode cX6_go 264 = .ok (.ifCond .ne 304, 3) := by decide +kernel
theorem dX6_go_267 : decode cX6_go 267 = .ok (.aload_n 0, 1) := by decide +kernel
theorem dX6_go_268 : decode cX6_go 268 = .ok (.getfield 26, 3) := by decide +kernel
theorem dX6_go_271 : decode cX6_go 271 = .ok (.iload 7, 2) := by decide +kernel
theorem dX6_go_273 : decode cX6_go 273 = .ok (.fconst 0, 1) := by decide +kernel
theorem dX6_go_274 : decode cX6_go 274 = .ok (.fastore, 1) := by decide +kernel
theorem dX6_go_275 : decode cX6_go 275 = .ok (.goto 293, 3) := by decide +kernel
theorem dX6_go_278 : decode cX6_go 278 = .ok (.aload_n 0, 1) := by decide +kernel
theorem dX6_go_279 : decode cX6_go 279 = .ok (.invokevirtual 126, 3) := by decide +kernel
theorem dX6_go_282 : decode cX6_go 282 = .ok (.ifCond .eq 222, 3) := by decide +kernel
theorem dX6_go_285 : decode cX6_go 285 = .ok (.aload 8, 2) := by decide +kernel
theorem dX6_go_287 : decode cX6_go 287 = .ok (.iconst 0, 1) := by decide +kernel
theorem dX6_go_288 : decode cX6_go 288 = .ok (.iaload, 1) := by decide +kernel
theorem dX6_go_289 : decode cX6_go 289 = .ok (.ifCond .lt 215, 3) := by decide +kernel
theorem dX6_go_292 : decode cX6_go 292 = .ok (.aload_n 0, 1) := by decide +kernel
theorem dX6_go_293 : decode cX6_go 293 = .ok (.getfield 30, 3) := by decide +kernel
theorem dX6_go_296 : decode cX6_go 296 = .ok (.aload 8, 2) := by decide +kernel
theorem dX6_go_298 : decode cX6_go 298 = .ok (.iconst 0, 1) := by decide +kernel
theorem dX6_go_299 : decode cX6_go 299 = .ok (.iaload, 1) := by decide +kernel
theorem dX6_go_300 : decode cX6_go 300 = .ok (.aaload, 1) := by decide +kernel
theorem dX6_go_301 : decode cX6_go 301 = .ok (.astore 9, 2) := by decide +kernel
theorem dX6_go_303 : decode cX6_go 303 = .ok (.dconst 1, 1) := by decide +kernel
theorem dX6_go_304 : decode cX6_go 304 = .ok (.aload_n 0, 1) := by decide +kernel
theorem dX6_go_305 : decode cX6_go 305 = .ok (.getfield 26, 3) := by decide +kernel
theorem dX6_go_308 : decode cX6_go 308 = .ok (.iload 7, 2) := by decide +kernel
theorem dX6_go_310 : decode cX6_go 310 = .ok (.faload, 1) := by decide +kernel
theorem dX6_go_311 : decode cX6_go 311 = .ok (.f2d, 1) := by decide +kernel
theorem dX6_go_312 : decode cX6_go 312 = .ok (.dadd, 1) := by decide +kernel
theorem dX6_go_313 : decode cX6_go 313 = .ok (.dstore 10, 2) := by decide +kernel
theorem dX6_go_315 : decode cX6_go 315 = .ok (.dload 10, 2) := by decide +kernel
theorem dX6_go_317 : decode cX6_go 317 = .ok (.dload 5, 2) := by decide +kernel
theorem dX6_go_319 : decode cX6_go 319 = .ok (.dcmp .g, 1) := by decide +kernel
theorem dX6_go_320 : decode cX6_go 320 = .ok (.ifCond .ge 8, 3) := by decide +kernel
theorem dX6_go_323 : decode cX6_go 323 = .ok (.dload 10, 2) := by decide +kernel
theorem dX6_go_325 : decode cX6_go 325 = .ok (.goto 5, 3) := by decide +kernel
theorem dX6_go_328 : decode cX6_go 328 = .ok (.dload 5, 2) := by decide +kernel
theorem dX6_go_330 : decode cX6_go 330 = .ok (.dstore 12, 2) := by decide +kernel
theorem dX6_go_332 : decode cX6_go 332 = .ok (.dload 5, 2) := by decide +kernel
theorem dX6_go_334 : decode cX6_go 334 = .ok (.dload 12, 2) := by decide +kernel
theorem dX6_go_336 : decode cX6_go 336 = .ok (.dsub, 1) := by decide +kernel
theorem dX6_go_337 : decode cX6_go 337 = .ok (.dstore 5, 2) := by decide +kernel
theorem dX6_go_339 : decode cX6_go 339 = .ok (.dload 12, 2) := by decide +kernel
theorem dX6_go_341 : decode cX6_go 341 = .ok (.dload 10, 2) := by decide +kernel
theorem dX6_go_343 : decode cX6_go 343 = .ok (.ddiv, 1) := by decide +kernel
theorem dX6_go_344 : decode cX6_go 344 = .ok (.dstore 14, 2) := by decide +kernel
theorem dX6_go_346 : decode cX6_go 346 = .ok (.aload 9, 2) := by decide +kernel
theorem dX6_go_348 : decode cX6_go 348 = .ok (.iconst 1, 1) := by decide +kernel
theorem dX6_go_349 : decode cX6_go 349 = .ok (.iaload, 1) := by decide +kernel
theorem dX6_go_350 : decode cX6_go 350 = .ok (.iconst 1, 1) := by decide +kernel
theorem dX6_go_351 : decode cX6_go 351 = .ok (.if_icmp .ne 9, 3) := by decide +kernel
theorem dX6_go_354 : decode cX6_go 354 = .ok (.ldc2_w 130, 3) := by decide +kernel
theorem dX6_go_357 : decode cX6_go 357 = .ok (.goto 20, 3) := by decide +kernel
theorem dX6_go_360 : decode cX6_go 360 = .ok (.aload 9, 2) := by decide +kernel
theorem dX6_go_362 : decode cX6_go 362 = .ok (.iconst 1, 1) := by decide +kernel
theorem dX6_go_363 : decode cX6_go 363 = .ok (.iaload, 1) := by decide +kernel
theorem dX6_go_364 : decode cX6_go 364 = .ok (.iconst 2, 1) := by decide +kernel
theorem dX6_go_365 : decode cX6_go 365 = .ok (.if_icmp .ne 9, 3) := by decide +kernel
theorem dX6_go_368 : decode cX6_go 368 = .ok (.ldc2_w 132, 3) := by decide +kernel
theorem dX6_go_371 : decode cX6_go 371 = .ok (.goto 6, 3) := by decide +kernel
theorem dX6_go_374 : decode cX6_go 374 = .ok (.ldc2_w 66, 3) := by decide +kernel
theorem dX6_go_377 : decode cX6_go 377 = .ok (.dstore 16, 2) := by decide +kernel
theorem dX6_go_379 : decode cX6_go 379 = .ok (.aload_n 0, 1) := by decide +kernel
theorem dX6_go_380 : decode cX6_go 380 = .ok (.getfield 33, 3) := by decide +kernel
theorem dX6_go_383 : decode cX6_go 383 = .ok (.aload 8, 2) := by decide +kernel
theorem dX6_go_385 : decode cX6_go 385 = .ok (.iconst 0, 1) := by decide +kernel
theorem dX6_go_386 : decode cX6_go 386 = .ok (.iaload, 1) := by decide +kernel
theorem dX6_go_387 : decode cX6_go 387 = .ok (.daload, 1) := by decide +kernel
theorem dX6_go_388 : decode cX6_go 388 = .ok (.dload 14, 2) := by decide +kernel
theorem dX6_go_390 : decode cX6_go 390 = .ok (.dload 16, 2) := by decide +kernel
theorem dX6_go_392 : decode cX6_go 392 = .ok (.dmul, 1) := by decide +kernel
theorem dX6_go_393 : decode cX6_go 393 = .ok (.dsub, 1) := by decide +kernel
theorem dX6_go_394 : decode cX6_go 394 = .ok (.dstore 18, 2) := by decide +kernel
theorem dX6_go_396 : decode cX6_go 396 = .ok (.aload_n 0, 1) := by decide +kernel
theorem dX6_go_397 : decode cX6_go 397 = .ok (.getfield 33, 3) := by decide +kernel
theorem dX6_go_400 : decode cX6_go 400 = .ok (.aload 8, 2) := by decide +kernel
theorem dX6_go_402 : decode cX6_go 402 = .ok (.iconst 0, 1) := by decide +kernel
theorem dX6_go_403 : decode cX6_go 403 = .ok (.iaload, 1) := by decide +kernel
theorem dX6_go_404 : decode cX6_go 404 = .ok (.dload 18, 2) := by decide +kernel
theorem dX6_go_406 : decode cX6_go 406 = .ok (.dconst 0, 1) := by decide +kernel
theorem dX6_go_407 : decode cX6_go 407 = .ok (.dcmp .g, 1) := by decide +kernel
theorem dX6_go_408 : decode cX6_go 408 = .ok (.ifCond .ge 7, 3) := by decide +kernel
theorem dX6_go_411 : decode cX6_go 411 = .ok (.dconst 0, 1) := by decide +kernel
theorem dX6_go_412 : decode cX6_go 412 = .ok (.goto 5, 3) := by decide +kernel
theorem dX6_go_415 : decode cX6_go 415 = .ok (.dload 18, 2) := by decide +kernel
theorem dX6_go_417 : decode cX6_go 417 = .ok (.dastore, 1) := by decide +kernel
theorem dX6_go_418 : decode cX6_go 418 = .ok (.aload 9, 2) := by decide +kernel
theorem dX6_go_420 : decode cX6_go 420 = .ok (.iconst 1, 1) := by decide +kernel
theorem dX6_go_421 : decode cX6_go 421 = .ok (.iaload, 1) := by decide +kernel
theorem dX6_go_422 : decode cX6_go 422 = .ok (.iconst 1, 1) := by decide +kernel
theorem dX6_go_423 : decode cX6_go 423 = .ok (.if_icmp .ne 7, 3) := by decide +kernel
theorem dX6_go_426 : decode cX6_go 426 = .ok (.fconst 2, 1) := by decide +kernel
theorem dX6_go_427 : decode cX6_go 427 = .ok (.goto 4, 3) := by decide +kernel
theorem dX6_go_430 : decode cX6_go 430 = .ok (.fconst 1, 1) := by decide +kernel
theorem dX6_go_431 : decode cX6_go 431 = .ok (.fstore 20, 2) := by decide +kernel
theorem dX6_go_433 : decode cX6_go 433 = .ok (.aload_n 0, 1) := by decide +kernel
theorem dX6_go_434 : decode cX6_go 434 = .ok (.getfield 26, 3) := by decide +kernel
theorem dX6_go_437 : decode cX6_go 437 = .ok (.iload 7, 2) := by decide +kernel
theorem dX6_go_439 : decode cX6_go 439 = .ok (.aload_n 0, 1) := by decide +kernel
theorem dX6_go_440 : decode cX6_go 440 = .ok (.getfield 26, 3) := by decide +kernel
theorem dX6_go_443 : decode cX6_go 443 = .ok (.iload 7, 2) := by decide +kernel
theorem dX6_go_445 : decode cX6_go 445 = .ok (.faload, 1) := by decide +kernel
theorem dX6_go_446 : decode cX6_go 446 = .ok (.dload 14, 2) := by decide +kernel
theorem dX6_go_448 : decode cX6_go 448 = .ok (.d2f, 1) := by decide +kernel
theorem dX6_go_449 : decode cX6_go 449 = .ok (.fload 20, 2) := by decide +kernel
theorem dX6_go_451 : decode cX6_go 451 = .ok (.fmul, 1) := by decide +kernel
theorem dX6_go_452 : decode cX6_go 452 = .ok (.ldc 111, 2) := by decide +kernel
theorem dX6_go_454 : decode cX6_go 454 = .ok (.fdiv, 1) := by decide +kernel
theorem dX6_go_455 : decode cX6_go 455 = .ok (.fadd, 1) := by decide +kernel
theorem dX6_go_456 : decode cX6_go 456 = .ok (.fastore, 1) := by decide +kernel
theorem dX6_go_457 : decode cX6_go 457 = .ok (.aload_n 0, 1) := by decide +kernel
theorem dX6_go_458 : decode cX6_go 458 = .ok (.getfield 26, 3) := by decide +kernel
theorem dX6_go_461 : decode cX6_go 461 = .ok (.iload 7, 2) := by decide +kernel
theorem dX6_go_463 : decode cX6_go 463 = .ok (.faload, 1) := by decide +kernel
theorem dX6_go_464 : decode cX6_go 464 = .ok (.fconst 1, 1) := by decide +kernel
theorem dX6_go_465 : decode cX6_go 465 = .ok (.fcmp .l, 1) := by decide +kernel
theorem dX6_go_466 : decode cX6_go 466 = .ok (.ifCond .le 11, 3) := by decide +kernel
