theorem dX7_lot_33 : decode cX7_lot 33 = .ok (.iload 4, 2) := by decide +kernel
theorem dX7_lot_35 : decode cX7_lot 35 = .ok (.iconst 0, 1) := by decide +kernel
theorem dX7_lot_36 : decode cX7_lot 36 = .ok (.bipush 30, 2) := by decide +kernel
theorem dX7_lot_38 : decode cX7_lot 38 = .ok (.invokestatic 48, 3) := by decide +kernel
theorem dX7_lot_41 : decode cX7_lot 41 = .ok (.ifCond .ne 9, 3) := by decide +kernel
theorem dX7_lot_44 : decode cX7_lot 44 = .ok (.aload_n 0, 1) := by decide +kernel
theorem dX7_lot_45 : decode cX7_lot 45 = .ok (.iconst 1, 1) := by decide +kernel
theorem dX7_lot_46 : decode cX7_lot 46 = .ok (.invokevirtual 52, 3) := by decide +kernel
theorem dX7_lot_49 : decode cX7_lot 49 = .ok (.ireturn, 1) := by decide +kernel
theorem dX7_lot_50 : decode cX7_lot 50 = .ok (.aload_n 0, 1) := by decide +kernel
theorem dX7_lot_51 : decode cX7_lot 51 = .ok (.getfield 21, 3) := by decide +kernel
theorem dX7_lot_54 : decode cX7_lot 54 = .ok (.invokeinterface 29 1, 5) := by decide +kernel
theorem dX7_lot_59 : decode cX7_lot 59 = .ok (.bipush 10, 2) := by decide +kernel
theorem dX7_lot_61 : decode cX7_lot 61 = .ok (.if_icmp .ne 9, 3) := by decide +kernel
theorem dX7_lot_64 : decode cX7_lot 64 = .ok (.aload_n 0, 1) := by decide +kernel
theorem dX7_lot_65 : decode cX7_lot 65 = .ok (.iconst 2, 1) := by decide +kernel
theorem dX7_lot_66 : decode cX7_lot 66 = .ok (.invokevirtual 52, 3) := by decide +kernel
theorem dX7_lot_69 : decode cX7_lot 69 = .ok (.ireturn, 1) := by decide +kernel
theorem dX7_lot_70 : decode cX7_lot 70 = .ok (.iconst 5, 1) := by decide +kernel
theorem dX7_lot_71 : decode cX7_lot 71 = .ok (.newarray .int, 2) := by decide +kernel
theorem dX7_lot_73 : decode cX7_lot 73 = .ok (.dup, 1) := by decide +kernel
theorem dX7_lot_74 : decode cX7_lot 74 = .ok (.iconst 0, 1) := by decide +kernel
theorem dX7_lot_75 : decode cX7_lot 75 = .ok (.iload_n 1, 1) := by decide +kernel
theorem dX7_lot_76 : decode cX7_lot 76 = .ok (.iastore, 1) := by decide +kernel
theorem dX7_lot_77 : decode cX7_lot 77 = .ok (.dup, 1) := by decide +kernel
theorem dX7_lot_78 : decode cX7_lot 78 = .ok (.iconst 1, 1) := by decide +kernel
theorem dX7_lot_79 : decode cX7_lot 79 = .ok (.iload_n 2, 1) := by decide +kernel
theorem dX7_lot_80 : decode cX7_lot 80 = .ok (.iastore, 1) := by decide +kernel
theorem dX7_lot_81 : decode cX7_lot 81 = .ok (.dup, 1) := by decide +kernel
theorem dX7_lot_82 : decode cX7_lot 82 = .ok (.iconst 2, 1) := by decide +kernel
theorem dX7_lot_83 : decode cX7_lot 83 = .ok (.iload_n 3, 1) := by decide +kernel
theorem dX7_lot_84 : decode cX7_lot 84 = .ok (.iastore, 1) := by decide +kernel
theorem dX7_lot_85 : decode cX7_lot 85 = .ok (.dup, 1) := by decide +kernel
theorem dX7_lot_86 : decode cX7_lot 86 = .ok (.iconst 3, 1) := by decide +kernel
theorem dX7_lot_87 : decode cX7_lot 87 = .ok (.aload_n 0, 1) := by decide +kernel
theorem dX7_lot_88 : decode cX7_lot 88 = .ok (.getfield 12, 3) := by decide +kernel
theorem dX7_lot_91 : decode cX7_lot 91 = .ok (.getfield 59, 3) := by decide +kernel
theorem dX7_lot_94 : decode cX7_lot 94 = .ok (.bipush 48, 2) := by decide +kernel
theorem dX7_lot_96 : decode cX7_lot 96 = .ok (.idiv, 1) := by decide +kernel
theorem dX7_lot_97 : decode cX7_lot 97 = .ok (.iload 4, 2) := by decide +kernel
theorem dX7_lot_99 : decode cX7_lot 99 = .ok (.iadd, 1) := by decide +kernel
theorem dX7_lot_100 : decode cX7_lot 100 = .ok (.iastore, 1) := by decide +kernel
theorem dX7_lot_101 : decode cX7_lot 101 = .ok (.dup, 1) := by decide +kernel
theorem dX7_lot_102 : decode cX7_lot 102 = .ok (.iconst 4, 1) := by decide +kernel
theorem dX7_lot_103 : decode cX7_lot 103 = .ok (.iconst 0, 1) := by decide +kernel
theorem dX7_lot_104 : decode cX7_lot 104 = .ok (.iastore, 1) := by decide +kernel
theorem dX7_lot_105 : decode cX7_lot 105 = .ok (.astore 5, 2) := by decide +kernel
theorem dX7_lot_107 : decode cX7_lot 107 = .ok (.aload_n 0, 1) := by decide +kernel
theorem dX7_lot_108 : decode cX7_lot 108 = .ok (.getfield 12, 3) := by decide +kernel
theorem dX7_lot_111 : decode cX7_lot 111 = .ok (.getfield 104, 3) := by decide +kernel
theorem dX7_lot_114 : decode cX7_lot 114 = .ok (.aload_n 0, 1) := by decide +kernel
theorem dX7_lot_115 : decode cX7_lot 115 = .ok (.getfield 21, 3) := by decide +kernel
theorem dX7_lot_118 : decode cX7_lot 118 = .ok (.invokeinterface 29 1, 5) := by decide +kernel
theorem dX7_lot_123 : decode cX7_lot 123 = .ok (.iload_n 3, 1) := by decide +kernel
theorem dX7_lot_124 : decode cX7_lot 124 = .ok (.i2d, 1) := by decide +kernel
theorem dX7_lot_125 : decode cX7_lot 125 = .ok (.dastore, 1) := by decide +kernel
theorem dX7_lot_126 : decode cX7_lot 126 = .ok (.aload_n 0, 1) := by decide +kernel
theorem dX7_lot_127 : decode cX7_lot 127 = .ok (.getfield 21, 3) := by decide +kernel
theorem dX7_lot_130 : decode cX7_lot 130 = .ok (.aload 5, 2) := by decide +kernel
theorem dX7_lot_132 : decode cX7_lot 132 = .ok (.invokeinterface 108 2, 5) := by decide +kernel
theorem dX7_lot_137 : decode cX7_lot 137 = .ok (.pop, 1) := by decide +kernel
theorem dX7_lot_138 : decode cX7_lot 138 = .ok (.aload_n 0, 1) := by decide +kernel
theorem dX7_lot_139 : decode cX7_lot 139 = .ok (.getfield 21, 3) := by decide +kernel
theorem dX7_lot_142 : decode cX7_lot 142 = .ok (.invokeinterface 29 1, 5) := by decide +kernel
theorem dX7_lot_147 : decode cX7_lot 147 = .ok (.iconst 1, 1) := by decide +kernel
theorem dX7_lot_148 : decode cX7_lot 148 = .ok (.isub, 1) := by decide +kernel
theorem dX7_lot_149 : decode cX7_lot 149 = .ok (.ireturn, 1) := by decide +kernel
set_option maxRecDepth 20000 in
theorem ggX7_feed_X7_isPair : GoodIn wsX7_feed wsX7_isPair := goodIn_r _ [11, 4, 12, 13, 14, 10, 15, 51, 52, 53, 54, 55, 56, 57, 58, 59, 60, 61, 62, 63, 64, 65, 66, 67, 68, 69, 70, 71, 72, 73, 74, 75, 76, 77] (by decide +kernel) (by decide +kernel)
set_option maxRecDepth 20000 in
theorem gX7_feed_X7_isPair : GoodIn wsX7_feed (wsV RX7 112 RX7 yX7_isPair wsX7_isPair) := goodIn_app (goodIn_of _ (by decide +kernel)) ggX7_feed_X7_isPair
set_option maxRecDepth 20000 in
theorem ggX7_feed_X7_isLot : GoodIn wsX7_feed wsX7_isLot := goodIn_r _ [19, 2, 20, 21, 22, 23, 24, 25, 13, 14, 10, 15, 51, 52, 53, 54, 55, 56, 57, 78, 79, 80] (by decide +kernel) (by decide +kernel)
set_option maxRecDepth 20000 in
theorem gX7_feed_X7_isLot : GoodIn wsX7_feed (wsV RX7 116 RX7 yX7_isLot wsX7_isLot) := goodIn_app (goodIn_of _ (by decide +kernel)) ggX7_feed_X7_isLot
set_option maxRecDepth 20000 in
theorem ggX7_feed_X7_no : GoodIn wsX7_feed wsX7_no := goodIn_r _ [29, 1, 51, 52, 53, 54, 55, 56, 57] (by decide +kernel) (by decide +kernel)
set_option maxRecDepth 20000 in
theorem gX7_feed_X7_no : GoodIn wsX7_feed (wsV RX7 52 RX7 yX7_no wsX7_no) := goodIn_app (goodIn_of _ (by decide +kernel)) ggX7_feed_X7_no
set_option maxRecDepth 20000 in
theorem ggX7_feed_Jx4a65c_get_915e3 : GoodIn wsX7_feed wsJx4a65c_get_915e3 := goodIn_r _ [33, 25, 34, 35, 36, 37, 38, 39, 40, 41, 42, 43, 44, 23, 45, 46, 78, 79, 80] (by decide +kernel) (by decide +kernel)
set_option maxRecDepth 20000 in
theorem gX7_feed_Jx4a65c_get_915e3_f39Jx4a65c : GoodIn wsX7_feed (va_wsF RX7 39 RJx4a65c ⟨"java/util/List", "get", "(I)Ljava/lang/Object;"⟩ yJx4a65c_get_915e3 wsJx4a65c_get_915e3) := goodIn_app (goodIn_of _ (by decide +kernel)) ggX7_feed_Jx4a65c_get_915e3
set_option maxRecDepth 20000 in
theorem ggX7_feed_X7_count : GoodIn wsX7_feed wsX7_count := goodIn_r _ [50, 2, 3, 20, 21, 22, 23, 24, 25, 30, 31, 32, 33, 34, 35, 36, 37, 38, 39, 40, 41, 42, 43, 44, 45, 46, 51, 52, 53, 54, 55, 56, 57, 78, 79, 80] (by decide +kernel) (by decide +kernel)
set_option maxRecDepth 20000 in
theorem gX7_feed_X7_count : GoodIn wsX7_feed (wsV RX7 122 RX7 yX7_count wsX7_count) := goodIn_app (goodIn_of _ (by decide +kernel)) ggX7_feed_X7_count
theorem dX7_feed_0 : decode cX7_feed 0 = .ok (.aload_n 0, 1) := by decide +kernel
theorem dX7_feed_1 : decode cX7_feed 1 = .ok (.iconst 0, 1) := by decide +kernel
theorem dX7_feed_2 : decode cX7_feed 2 = .ok (.putfield 25, 3) := by decide +kernel
theorem dX7_feed_5 : decode cX7_feed 5 = .ok (.aload_n 0, 1) := by decide +kernel
theorem dX7_feed_6 : decode cX7_feed 6 = .ok (.iload_n 1, 1) := by decide +kernel
theorem dX7_feed_7 : decode cX7_feed 7 = .ok (.invokevirtual 112, 3) := by decide +kernel
theorem dX7_feed_10 : decode cX7_feed 10 = .ok (.ifCond .eq 11, 3) := by decide +kernel
theorem dX7_feed_13 : decode cX7_feed 13 = .ok (.aload_n 0, 1) := by decide +kernel
theorem dX7_feed_14 : decode cX7_feed 14 = .ok (.iload_n 2, 1) := by decide +kernel
theorem dX7_feed_15 : decode cX7_feed 15 = .ok (.invokevirtual 116, 3) := by decide +kernel
theorem dX7_feed_18 : decode cX7_feed 18 = .ok (.ifCond .ne 9, 3) := by decide +kernel
theorem dX7_feed_21 : decode cX7_feed 21 = .ok (.aload_n 0, 1) := by decide +kernel
theorem dX7_feed_22 : decode cX7_feed 22 = .ok (.iconst 1, 1) := by decide +kernel
theorem dX7_feed_23 : decode cX7_feed 23 = .ok (.invokevirtual 52, 3) := by decide +kernel
theorem dX7_feed_26 : decode cX7_feed 26 = .ok (.ireturn, 1) := by decide +kernel
theorem dX7_feed_27 : decode cX7_feed 27 = .ok (.aload_n 0, 1) := by decide +kernel
theorem dX7_feed_28 : decode cX7_feed 28 = .ok (.getfield 21, 3) := by decide +kernel
theorem dX7_feed_31 : decode cX7_feed 31 = .ok (.iload_n 2, 1) := by decide +kernel
theorem dX7_feed_32 : decode cX7_feed 32 = .ok (.invokeinterface 39 2, 5) := by decide +kernel
theorem dX7_feed_37 : decode cX7_feed 37 = .ok (.checkcast 43, 3) := by decide +kernel
theorem dX7_feed_40 : decode cX7_feed 40 = .ok (.iconst 4, 1) := by decide +kernel
theorem dX7_feed_41 : decode cX7_feed 41 = .ok (.iaload, 1) := by decide +kernel
theorem dX7_feed_42 : decode cX7_feed 42 = .ok (.ifCond .ne 28, 3) := by decide +kernel
theorem dX7_feed_45 : decode cX7_feed 45 = .ok (.aload_n 0, 1) := by decide +kernel
theorem dX7_feed_46 : decode cX7_feed 46 = .ok (.getfield 12, 3) := by decide +kernel
theorem dX7_feed_49 : decode cX7_feed 49 = .ok (.getfield 101, 3) := by decide +kernel
theorem dX7_feed_52 : decode cX7_feed 52 = .ok (.iload_n 1, 1) := by decide +kernel
theorem dX7_feed_53 : decode cX7_feed 53 = .ok (.iaload, 1) := by decide +kernel
theorem dX7_feed_54 : decode cX7_feed 54 = .ok (.iconst (-1), 1) := by decide +kernel
theorem dX7_feed_55 : decode cX7_feed 55 = .ok (.if_icmp .ne 15, 3) := by decide +kernel
theorem dX7_feed_58 : decode cX7_feed 58 = .ok (.aload_n 0, 1) := by decide +kernel
theorem dX7_feed_59 : decode cX7_feed 59 = .ok (.getfield 12, 3) := by decide +kernel
theorem dX7_feed_62 : decode cX7_feed 62 = .ok (.getfield 119, 3) := by decide +kernel
theorem dX7_feed_65 : decode cX7_feed 65 = .ok (.iload_n 1, 1) := by decide +kernel
theorem dX7_feed_66 : decode cX7_feed 66 = .ok (.iaload, 1) := by decide +kernel
theorem dX7_feed_67 : decode cX7_feed 67 = .ok (.ifCond .le 9, 3) := by decide +kernel
theorem dX7_feed_70 : decode cX7_feed 70 = .ok (.aload_n 0, 1) := by decide +kernel
theorem dX7_feed_71 : decode cX7_feed 71 = .ok (.iconst 2, 1) := by decide +kernel
theorem dX7_feed_72 : decode cX7_feed 72 = .ok (.invokevirtual 52, 3) := by decide +kernel
theorem dX7_feed_75 : decode cX7_feed 75 = .ok (.ireturn, 1) := by decide +kernel
theorem dX7_feed_76 : decode cX7_feed 76 = .ok (.aload_n 0, 1) := by decide +kernel
theorem dX7_feed_77 : decode cX7_feed 77 = .ok (.getfield 12, 3) := by decide +kernel
theorem dX7_feed_80 : decode cX7_feed 80 = .ok (.getfield 101, 3) := by decide +kernel
theorem dX7_feed_83 : decode cX7_feed 83 = .ok (.iload_n 1, 1) := by decide +kernel
theorem dX7_feed_84 : decode cX7_feed 84 = .ok (.iload_n 2, 1) := by decide +kernel
theorem dX7_feed_85 : decode cX7_feed 85 = .ok (.iastore, 1) := by decide +kernel
theorem dX7_feed_86 : decode cX7_feed 86 = .ok (.aload_n 0, 1) := by decide +kernel
theorem dX7_feed_87 : decode cX7_feed 87 = .ok (.getfield 21, 3) := by decide +kernel
theorem dX7_feed_90 : decode cX7_feed 90 = .ok (.iload_n 2, 1) := by decide +kernel
theorem dX7_feed_91 : decode cX7_feed 91 = .ok (.invokeinterface 39 2, 5) := by decide +kernel
theorem dX7_feed_96 : decode cX7_feed 96 = .ok (.checkcast 43, 3) := by decide +kernel
theorem dX7_feed_99 : decode cX7_feed 99 = .ok (.iconst 4, 1) := by decide +kernel
theorem dX7_feed_100 : decode cX7_feed 100 = .ok (.iconst 1, 1) := by decide +kernel
theorem dX7_feed_101 : decode cX7_feed 101 = .ok (.iastore, 1) := by decide +kernel
theorem dX7_feed_102 : decode cX7_feed 102 = .ok (.aload_n 0, 1) := by decide +kernel
theorem dX7_feed_103 : decode cX7_feed 103 = .ok (.iconst 0, 1) := by decide +kernel
theorem dX7_feed_104 : decode cX7_feed 104 = .ok (.invokevirtual 122, 3) := by decide +kernel
theorem dX7_feed_107 : decode cX7_feed 107 = .ok (.ireturn, 1) := by decide +kernel
set_option maxRecDepth 20000 in
theorem ggX7_take_X7_isPair : GoodIn wsX7_take wsX7_isPair := goodIn_r _ [10, 2, 11, 12, 13, 9, 14, 38, 39, 40, 41, 42, 43, 44, 45, 46, 47, 48, 49, 50, 51, 52, 53, 54, 55, 56, 57, 58, 59, 60, 61, 62, 63, 64] (by decide +kernel) (by decide +kernel)
set_option maxRecDepth 20000 in
theorem gX7_take_X7_isPair : GoodIn wsX7_take (wsV RX7 112 RX7 yX7_isPair wsX7_isPair) := goodIn_app (goodIn_of _ (by decide +kernel)) ggX7_take_X7_isPair
set_option maxRecDepth 20000 in
theorem ggX7_take_X7_no : GoodIn wsX7_take wsX7_no := goodIn_r _ [18, 1, 38, 39, 40, 41, 42, 43, 44] (by decide +kernel) (by decide +kernel)
set_option maxRecDepth 20000 in
theorem gX7_take_X7_no : GoodIn wsX7_take (wsV RX7 52 RX7 yX7_no wsX7_no) := goodIn_app (goodIn_of _ (by decide +kernel)) ggX7_take_X7_no
set_option maxRecDepth 20000 in
theorem ggX7_take_Jx4a65c_get_915e3 : GoodIn wsX7_take wsJx4a65c_get_915e3 := goodIn_r _ [23, 24, 25, 26, 27, 28, 29, 30, 31, 32, 33, 34, 35, 22, 36, 37, 65, 66, 67] (by decide +kernel) (by decide +kernel)
set_option maxRecDepth 20000 in
theorem gX7_take_Jx4a65c_get_915e3_f39Jx4a65c : GoodIn wsX7_take (va_wsF RX7 39 RJx4a65c ⟨"java/util/List", "get", "(I)Ljava/lang/Object;"⟩ yJx4a65c_get_915e3 wsJx4a65c_get_915e3) := goodIn_app (goodIn_of _ (by decide +kernel)) ggX7_take_Jx4a65c_get_915e3
theorem dX7_take_0 : decode cX7_take 0 = .ok (.aload_n 0, 1) := by decide +kernel
theorem dX7_take_1 : decode cX7_take 1 = .ok (.iconst 0, 1) := by decide +kernel
theorem dX7_take_2 : decode cX7_take 2 = .ok (.putfield 25, 3) := by decide +kernel
theorem dX7_take_5 : decode cX7_take 5 = .ok (.aload_n 0, 1) := by decide +kernel
theorem dX7_take_6 : decode cX7_take 6 = .ok (.iload_n 1, 1) := by decide +kernel
theorem dX7_take_7 : decode cX7_take 7 = .ok (.invokevirtual 112, 3) := by decide +kernel
theorem dX7_take_10 : decode cX7_take 10 = .ok (.ifCond .ne 9, 3) := by decide +kernel
theorem dX7_take_13 : decode cX7_take 13 = .ok (.aload_n 0, 1) := by decide +kernel
theorem dX7_take_14 : decode cX7_take 14 = .ok (.iconst 1, 1) := by decide +kernel
theorem dX7_take_15 : decode cX7_take 15 = .ok (.invokevirtual 52, 3) := by decide +kernel
theorem dX7_take_18 : decode cX7_take 18 = .ok (.ireturn, 1) := by decide +kernel
theorem dX7_take_19 : decode cX7_take 19 = .ok (.aload_n 0, 1) := by decide +kernel
theorem dX7_take_20 : decode cX7_take 20 = .ok (.getfield 12, 3) := by decide +kernel
theorem dX7_take_23 : decode cX7_take 23 = .ok (.getfield 101, 3) := by decide +kernel
theorem dX7_take_26 : decode cX7_take 26 = .ok (.iload_n 1, 1) := by decide +kernel
theorem dX7_take_27 : decode cX7_take 27 = .ok (.iaload, 1) := by decide +kernel
theorem dX7_take_28 : decode cX7_take 28 = .ok (.istore_n 2, 1) := by decide +kernel
theorem dX7_take_29 : decode cX7_take 29 = .ok (.iload_n 2, 1) := by decide +kernel
theorem dX7_take_30 : decode cX7_take 30 = .ok (.iconst (-1), 1) := by decide +kernel
theorem dX7_take_31 : decode cX7_take 31 = .ok (.if_icmp .ne 9, 3) := by decide +kernel
theorem dX7_take_34 : decode cX7_take 34 = .ok (.aload_n 0, 1) := by decide +kernel
theorem dX7_take_35 : decode cX7_take 35 = .ok (.iconst 2, 1) := by decide +kernel
theorem dX7_take_36 : decode cX7_take 36 = .ok (.invokevirtual 52, 3) := by decide +kernel
theorem dX7_take_39 : decode cX7_take 39 = .ok (.ireturn, 1) := by decide +kernel
theorem dX7_take_40 : decode cX7_take 40 = .ok (.aload_n 0, 1) := by decide +kernel
theorem dX7_take_41 : decode cX7_take 41 = .ok (.getfield 12, 3) := by decide +kernel
theorem dX7_take_44 : decode cX7_take 44 = .ok (.getfield 101, 3) := by decide +kernel
theorem dX7_take_47 : decode cX7_take 47 = .ok (.iload_n 1, 1) := by decide +kernel
theorem dX7_take_48 : decode cX7_take 48 = .ok (.iconst (-1), 1) := by decide +kernel
theorem dX7_take_49 : decode cX7_take 49 = .ok (.iastore, 1) := by decide +kernel
theorem dX7_take_50 : decode cX7_take 50 = .ok (.aload_n 0, 1) := by decide +kernel
theorem dX7_take_51 : decode cX7_take 51 = .ok (.getfield 21, 3) := by decide +kernel
theorem dX7_take_54 : decode cX7_take 54 = .ok (.iload_n 2, 1) := by decide +kernel
theorem dX7_take_55 : decode cX7_take 55 = .ok (.invokeinterface 39 2, 5) := by decide +kernel
theorem dX7_take_60 : decode cX7_take 60 = .ok (.checkcast 43, 3) := by decide +kernel
theorem dX7_take_63 : decode cX7_take 63 = .ok (.iconst 4, 1) := by decide +kernel
theorem dX7_take_64 : decode cX7_take 64 = .ok (.iconst 0, 1) := by decide +kernel
theorem dX7_take_65 : decode cX7_take 65 = .ok (.iastore, 1) := by decide +kernel
theorem dX7_take_66 : decode cX7_take 66 = .ok (.iload_n 2, 1) := by decide +kernel
theorem dX7_take_67 : decode cX7_take 67 = .ok (.ireturn, 1) := by decide +kernel
set_option maxRecDepth 20000 in
theorem ggX7_dress_X7_isPair : GoodIn wsX7_dress wsX7_isPair := goodIn_r _ [11, 2, 12, 13, 14, 10, 15, 48, 49, 50, 51, 52, 53, 54, 55, 56, 57, 58, 59, 60, 61, 62, 63, 64, 65, 66, 67, 68, 69, 70, 71, 72, 73, 74] (by decide +kernel) (by decide +kernel)
set_option maxRecDepth 20000 in
theorem gX7_dress_X7_isPair : GoodIn wsX7_dress (wsV RX7 112 RX7 yX7_isPair wsX7_isPair) := goodIn_app (goodIn_of _ (by decide +kernel)) ggX7_dress_X7_isPair
set_option maxRecDepth 20000 in
theorem ggX7_dress_X7_no : GoodIn wsX7_dress wsX7_no := goodIn_r _ [19, 1, 48, 49, 50, 51, 52, 53, 54] (by decide +kernel) (by decide +kernel)
set_option maxRecDepth 20000 in
theorem gX7_dress_X7_no : GoodIn wsX7_dress (wsV RX7 52 RX7 yX7_no wsX7_no) := goodIn_app (goodIn_of _ (by decide +kernel)) ggX7_dress_X7_no
set_option maxRecDepth 20000 in
theorem ggX7_dress_J9_ceil_294c1 : GoodIn wsX7_dress wsJ9_ceil_294c1 := goodIn_r _ [23, 24, 25, 26, 27, 28, 29, 30, 31, 32, 33, 34, 35, 36, 37, 38, 39, 40, 41, 42, 43, 22, 44, 45, 46, 47] (by decide +kernel) (by decide +kernel)
set_option maxRecDepth 20000 in
theorem gX7_dress_J9_ceil_294c1 : GoodIn wsX7_dress (va_wsS RX7 131 yJ9_ceil_294c1 wsJ9_ceil_294c1) := goodIn_app (goodIn_of _ (by decide +kernel)) ggX7_dress_J9_ceil_294c1
theorem dX7_dress_0 : decode cX7_dress 0 = .ok (.aload_n 0, 1) := by decide +kernel
theorem dX7_dress_1 : decode cX7_dress 1 = .ok (.iconst 0, 1) := by decide +kernel
theorem dX7_dress_2 : decode cX7_dress 2 = .ok (.putfield 25, 3) := by decide +kernel
theorem dX7_dress_5 : decode cX7_dress 5 = .ok (.aload_n 0, 1) := by decide +kernel
theorem dX7_dress_6 : decode cX7_dress 6 = .ok (.iload_n 1, 1) := by decide +kernel
theorem dX7_dress_7 : decode cX7_dress 7 = .ok (.invokevirtual 112, 3) := by decide +kernel
theorem dX7_dress_10 : decode cX7_dress 10 = .ok (.ifCond .ne 9, 3) := by decide +kernel
theorem dX7_dress_13 : decode cX7_dress 13 = .ok (.aload_n 0, 1) := by decide +kernel
theorem dX7_dress_14 : decode cX7_dress 14 = .ok (.iconst 1, 1) := by decide +kernel
theorem dX7_dress_15 : decode cX7_dress 15 = .ok (.invokevirtual 52, 3) := by decide +kernel
theorem dX7_dress_18 : decode cX7_dress 18 = .ok (.ireturn, 1) := by decide +kernel
theorem dX7_dress_19 : decode cX7_dress 19 = .ok (.aload_n 0, 1) := by decide +kernel
theorem dX7_dress_20 : decode cX7_dress 20 = .ok (.getfield 12, 3) := by decide +kernel
theorem dX7_dress_23 : decode cX7_dress 23 = .ok (.getfield 101, 3) := by decide +kernel
theorem dX7_dress_26 : decode cX7_dress 26 = .ok (.iload_n 1, 1) := by decide +kernel
theorem dX7_dress_27 : decode cX7_dress 27 = .ok (.iaload, 1) := by decide +kernel
theorem dX7_dress_28 : decode cX7_dress 28 = .ok (.iconst (-1), 1) := by decide +kernel
theorem dX7_dress_29 : decode cX7_dress 29 = .ok (.if_icmp .ne 15, 3) := by decide +kernel
theorem dX7_dress_32 : decode cX7_dress 32 = .ok (.aload_n 0, 1) := by decide +kernel
theorem dX7_dress_33 : decode cX7_dress 33 = .ok (.getfield 12, 3) := by decide +kernel
theorem dX7_dress_36 : decode cX7_dress 36 = .ok (.getfield 119, 3) := by decide +kernel
theorem dX7_dress_39 : decode cX7_dress 39 = .ok (.iload_n 1, 1) := by decide +kernel
theorem dX7_dress_40 : decode cX7_dress 40 = .ok (.iaload, 1) := by decide +kernel
theorem dX7_dress_41 : decode cX7_dress 41 = .ok (.ifCond .le 9, 3) := by decide +kernel
theorem dX7_dress_44 : decode cX7_dress 44 = .ok (.aload_n 0, 1) := by decide +kernel
theorem dX7_dress_45 : decode cX7_dress 45 = .ok (.iconst 2, 1) := by decide +kernel
theorem dX7_dress_46 : decode cX7_dress 46 = .ok (.invokevirtual 52, 3) := by decide +kernel
theorem dX7_dress_49 : decode cX7_dress 49 = .ok (.ireturn, 1) := by decide +kernel
theorem dX7_dress_50 : decode cX7_dress 50 = .ok (.aload_n 0, 1) := by decide +kernel
theorem dX7_dress_51 : decode cX7_dress 51 = .ok (.getfield 12, 3) := by decide +kernel
theorem dX7_dress_54 : decode cX7_dress 54 = .ok (.getfield 119, 3) := by decide +kernel
theorem dX7_dress_57 : decode cX7_dress 57 = .ok (.iload_n 1, 1) := by decide +kernel
theorem dX7_dress_58 : decode cX7_dress 58 = .ok (.iconst 3, 1) := by decide +kernel
theorem dX7_dress_59 : decode cX7_dress 59 = .ok (.ldc2_w 125, 3) := by decide +kernel
theorem dX7_dress_62 : decode cX7_dress 62 = .ok (.aload_n 0, 1) := by decide +kernel
theorem dX7_dress_63 : decode cX7_dress 63 = .ok (.getfield 12, 3) := by decide +kernel
theorem dX7_dress_66 : decode cX7_dress 66 = .ok (.getfield 127, 3) := by decide +kernel
theorem dX7_dress_69 : decode cX7_dress 69 = .ok (.iload_n 1, 1) := by decide +kernel
theorem dX7_dress_70 : decode cX7_dress 70 = .ok (.faload, 1) := by decide +kernel
theorem dX7_dress_71 : decode cX7_dress 71 = .ok (.f2d, 1) := by decide +kernel
theorem dX7_dress_72 : decode cX7_dress 72 = .ok (.dmul, 1) := by decide +kernel
theorem dX7_dress_73 : decode cX7_dress 73 = .ok (.invokestatic 131, 3) := by decide +kernel
theorem dX7_dress_76 : decode cX7_dress 76 = .ok (.d2i, 1) := by decide +kernel
theorem dX7_dress_77 : decode cX7_dress 77 = .ok (.iadd, 1) := by decide +kernel
theorem dX7_dress_78 : decode cX7_dress 78 = .ok (.iastore, 1) := by decide +kernel
theorem dX7_dress_79 : decode cX7_dress 79 = .ok (.aload_n 0, 1) := by decide +kernel
theorem dX7_dress_80 : decode cX7_dress 80 = .ok (.getfield 12, 3) := by decide +kernel
theorem dX7_dress_83 : decode cX7_dress 83 = .ok (.getfield 119, 3) := by decide +kernel
theorem dX7_dress_86 : decode cX7_dress 86 = .ok (.iload_n 1, 1) := by decide +kernel
theorem dX7_dress_87 : decode cX7_dress 87 = .ok (.iaload, 1) := by decide +kernel
theorem dX7_dress_88 : decode cX7_dress 88 = .ok (.ireturn, 1) := by decide +kernel
set_option maxRecDepth 20000 in
theorem ggX7_give_X7_isLot : GoodIn wsX7_give wsX7_isLot := goodIn_r _ [17, 2, 18, 19, 20, 21, 22, 23, 24, 25, 16, 26, 48, 49, 50, 51, 52, 53, 54, 75, 76, 77] (by decide +kernel) (by decide +kernel)
set_option maxRecDepth 20000 in
theorem gX7_give_X7_isLot : GoodIn wsX7_give (wsV RX7 116 RX7 yX7_isLot wsX7_isLot) := goodIn_app (goodIn_of _ (by decide +kernel)) ggX7_give_X7_isLot
set_option maxRecDepth 20000 in
theorem ggX7_give_X7_no : GoodIn wsX7_give wsX7_no := goodIn_r _ [30, 1, 48, 49, 50, 51, 52, 53, 54] (by decide +kernel) (by decide +kernel)
set_option maxRecDepth 20000 in
theorem gX7_give_X7_no : GoodIn wsX7_give (wsV RX7 52 RX7 yX7_no wsX7_no) := goodIn_app (goodIn_of _ (by decide +kernel)) ggX7_give_X7_no
set_option maxRecDepth 20000 in
theorem ggX7_give_Jx4a65c_get_915e3 : GoodIn wsX7_give wsJx4a65c_get_915e3 := goodIn_r _ [34, 23, 35, 36, 37, 38, 39, 40, 41, 42, 43, 44, 45, 21, 46, 47, 75, 76, 77] (by decide +kernel) (by decide +kernel)
set_option maxRecDepth 20000 in
theorem gX7_give_Jx4a65c_get_915e3_f39Jx4a65c : GoodIn wsX7_give (va_wsF RX7 39 RJx4a65c ⟨"java/util/List", "get", "(I)Ljava/lang/Object;"⟩ yJx4a65c_get_915e3 wsJx4a65c_get_915e3) := goodIn_app (goodIn_of _ (by decide +kernel)) ggX7_give_Jx4a65c_get_915e3
theorem dX7_give_0 : decode cX7_give 0 = .ok (.aload_n 0, 1) := by decide +kernel
theorem dX7_give_1 : decode cX7_give 1 = .ok (.iconst 0, 1) := by decide +kernel
theorem dX7_give_2 : decode cX7_give 2 = .ok (.putfield 25, 3) := by decide +kernel
theorem dX7_give_5 : decode cX7_give 5 = .ok (.aload_n 0, 1) := by decide +kernel
theorem dX7_give_6 : decode cX7_give 6 = .ok (.iload_n 1, 1) := by decide +kernel
theorem dX7_give_7 : decode cX7_give 7 = .ok (.invokevirtual 116, 3) := by decide +kernel
theorem dX7_give_10 : decode cX7_give 10 = .ok (.ifCond .ne 9, 3) := by decide +kernel
theorem dX7_give_13 : decode cX7_give 13 = .ok (.aload_n 0, 1) := by decide +kernel
theorem dX7_give_14 : decode cX7_give 14 = .ok (.iconst 1, 1) := by decide +kernel
theorem dX7_give_15 : decode cX7_give 15 = .ok (.invokevirtual 52, 3) := by decide +kernel
theorem dX7_give_18 : decode cX7_give 18 = .ok (.ireturn, 1) := by decide +kernel
theorem dX7_give_19 : decode cX7_give 19 = .ok (.aload_n 0, 1) := by decide +kernel
theorem dX7_give_20 : decode cX7_give 20 = .ok (.getfield 21, 3) := by decide +kernel
theorem dX7_give_23 : decode cX7_give 23 = .ok (.iload_n 1, 1) := by decide +kernel
theorem dX7_give_24 : decode cX7_give 24 = .ok (.invokeinterface 39 2, 5) := by decide +kernel
theorem dX7_give_29 : decode cX7_give 29 = .ok (.checkcast 43, 3) := by decide +kernel
theorem dX7_give_32 : decode cX7_give 32 = .ok (.astore_n 2, 1) := by decide +kernel
theorem dX7_give_33 : decode cX7_give 33 = .ok (.aload_n 2, 1) := by decide +kernel
theorem dX7_give_34 : decode cX7_give 34 = .ok (.iconst 4, 1) := by decide +kernel
theorem dX7_give_35 : decode cX7_give 35 = .ok (.iaload, 1) := by decide +kernel
theorem dX7_give_36 : decode cX7_give 36 = .ok (.iconst 2, 1) := by decide +kernel
theorem dX7_give_37 : decode cX7_give 37 = .ok (.if_icmp .eq 9, 3) := by decide +kernel
theorem dX7_give_40 : decode cX7_give 40 = .ok (.aload_n 0, 1) := by decide +kernel
theorem dX7_give_41 : decode cX7_give 41 = .ok (.iconst 2, 1) := by decide +kernel
theorem dX7_give_42 : decode cX7_give 42 = .ok (.invokevirtual 52, 3) := by decide +kernel
theorem dX7_give_45 : decode cX7_give 45 = .ok (.ireturn, 1) := by decide +kernel
theorem dX7_give_46 : decode cX7_give 46 = .ok (.aload_n 2, 1) := by decide +kernel
theorem dX7_give_47 : decode cX7_give 47 = .ok (.iconst 4, 1) := by decide +kernel
theorem dX7_give_48 : decode cX7_give 48 = .ok (.iconst 3, 1) := by decide +kernel
theorem dX7_give_49 : decode cX7_give 49 = .ok (.iastore, 1) := by decide +kernel
theorem dX7_give_50 : decode cX7_give 50 = .ok (.aload_n 0, 1) := by decide +kernel
theorem dX7_give_51 : decode cX7_give 51 = .ok (.dup, 1) := by decide +kernel
theorem dX7_give_52 : decode cX7_give 52 = .ok (.getfield 137, 3) := by decide +kernel
theorem dX7_give_55 : decode cX7_give 55 = .ok (.aload_n 2, 1) := by decide +kernel
theorem dX7_give_56 : decode cX7_give 56 = .ok (.iconst 2, 1) := by decide +kernel
theorem dX7_give_57 : decode cX7_give 57 = .ok (.iaload, 1) := by decide +kernel
theorem dX7_give_58 : decode cX7_give 58 = .ok (.i2d, 1) := by decide +kernel
theorem dX7_give_59 : decode cX7_give 59 = .ok (.ldc2_w 140, 3) := by decide +kernel
theorem dX7_give_62 : decode cX7_give 62 = .ok (.ddiv, 1) := by decide +kernel
theorem dX7_give_63 : decode cX7_give 63 = .ok (.dadd, 1) := by decide +kernel
theorem dX7_give_64 : decode cX7_give 64 = .ok (.putfield 137, 3) := by decide +kernel
theorem dX7_give_67 : decode cX7_give 67 = .ok (.aload_n 2, 1) := by decide +kernel
theorem dX7_give_68 : decode cX7_give 68 = .ok (.iconst 2, 1) := by decide +kernel
theorem dX7_give_69 : decode cX7_give 69 = .ok (.iaload, 1) := by decide +kernel
theorem dX7_give_70 : decode cX7_give 70 = .ok (.iconst 3, 1) := by decide +kernel
theorem dX7_give_71 : decode cX7_give 71 = .ok (.aload_n 2, 1) := by decide +kernel
theorem dX7_give_72 : decode cX7_give 72 = .ok (.iconst 1, 1) := by decide +kernel
theorem dX7_give_73 : decode cX7_give 73 = .ok (.iaload, 1) := by decide +kernel
theorem dX7_give_74 : decode cX7_give 74 = .ok (.isub, 1) := by decide +kernel
theorem dX7_give_75 : decode cX7_give 75 = .ok (.imul, 1) := by decide +kernel
theorem dX7_give_76 : decode cX7_give 76 = .ok (.iconst 4, 1) := by decide +kernel
theorem dX7_give_77 : decode cX7_give 77 = .ok (.idiv, 1) := by decide +kernel
theorem dX7_give_78 : decode cX7_give 78 = .ok (.iconst 0, 1) := by decide +kernel
theorem dX7_give_79 : decode cX7_give 79 = .ok (.aload_n 0, 1) := by decide +kernel
theorem dX7_give_80 : decode cX7_give 80 = .ok (.getfield 12, 3) := by decide +kernel
theorem dX7_give_83 : decode cX7_give 83 = .ok (.getfield 59, 3) := by decide +kernel
theorem dX7_give_86 : decode cX7_give 86 = .ok (.bipush 48, 2) := by decide +kernel
theorem dX7_give_88 : decode cX7_give 88 = .ok (.idiv, 1) := by decide +kernel
theorem dX7_give_89 : decode cX7_give 89 = .ok (.aload_n 2, 1) := by decide +kernel
theorem dX7_give_90 : decode cX7_give 90 = .ok (.iconst 3, 1) := by decide +kernel
theorem dX7_give_91 : decode cX7_give 91 = .ok (.iaload, 1) := by decide +kernel
theorem dX7_give_92 : decode cX7_give 92 = .ok (.isub, 1) := by decide +kernel
theorem dX7_give_93 : decode cX7_give 93 = .ok (.invokestatic 142, 3) := by decide +kernel
theorem dX7_give_96 : decode cX7_give 96 = .ok (.isub, 1) := by decide +kernel
theorem dX7_give_97 : decode cX7_give 97 = .ok (.istore_n 3, 1) := by decide +kernel
theorem dX7_give_98 : decode cX7_give 98 = .ok (.aload_n 0, 1) := by decide +kernel
theorem dX7_give_99 : decode cX7_give 99 = .ok (.dup, 1) := by decide +kernel
theorem dX7_give_100 : decode cX7_give 100 = .ok (.getfield 146, 3) := by decide +kernel
theorem dX7_give_103 : decode cX7_give 103 = .ok (.iload_n 3, 1) := by decide +kernel
theorem dX7_give_104 : decode cX7_give 104 = .ok (.iadd, 1) := by decide +kernel
theorem dX7_give_105 : decode cX7_give 105 = .ok (.putfield 146, 3) := by decide +kernel
theorem dX7_give_108 : decode cX7_give 108 = .ok (.iload_n 3, 1) := by decide +kernel
theorem dX7_give_109 : decode cX7_give 109 = .ok (.ireturn, 1) := by decide +kernel
set_option maxRecDepth 20000 in
theorem ggX7_pass_X7_in : GoodIn wsX7_pass wsX7_in := goodIn_r _ [7] (by decide +kernel) (by decide +kernel)
set_option maxRecDepth 20000 in
theorem gX7_pass_X7_in : GoodIn wsX7_pass (va_wsS RX7 48 yX7_in wsX7_in) := goodIn_app (goodIn_of _ (by decide +kernel)) ggX7_pass_X7_in
set_option maxRecDepth 20000 in
theorem ggX7_pass_X7_no : GoodIn wsX7_pass wsX7_no := goodIn_r _ [11, 1, 148, 149, 150, 151, 152, 153, 154] (by decide +kernel) (by decide +kernel)
set_option maxRecDepth 20000 in
theorem gX7_pass_X7_no : GoodIn wsX7_pass (wsV RX7 52 RX7 yX7_no wsX7_no) := goodIn_app (goodIn_of _ (by decide +kernel)) ggX7_pass_X7_no
set_option maxRecDepth 20000 in
theorem ggX7_pass_X6_tick : GoodIn wsX7_pass wsX6_tick := goodIn_r _ [16, 17, 18, 19, 20, 21, 22, 23, 24, 25, 26, 27, 28, 29, 30, 31, 32, 33, 34, 15, 35, 36, 37, 38, 39, 40, 41, 42, 43, 44, 45, 46, 47, 48, 49, 50, 51, 52, 53, 54, 55, 56, 57, 58, 59, 60, 61, 62, 63, 64, 65, 66, 67, 68, 69, 70, 71, 72, 73, 74, 75, 76, 77, 78, 79, 80, 81, 82, 83, 84, 85, 86, 87, 88, 89, 90, 91, 92, 93, 94, 95, 96, 97, 98, 99, 100, 101, 102, 103, 104, 105, 106, 107, 108, 109, 110, 111, 112, 113, 114, 115, 116, 117, 118, 119, 120, 121, 122, 123, 124, 125, 126, 127, 128, 129, 130, 131, 5, 6, 7, 155, 156, 157, 158, 159, 160, 161, 162, 163, 164, 165, 166, 167, 168, 169, 170, 171, 172, 173, 174, 148, 149, 150, 151, 152, 153, 154, 175, 176, 177] (by decide +kernel) (by decide +kernel)
set_option maxRecDepth 20000 in
theorem gX7_pass_X6_tick : GoodIn wsX7_pass (wsV RX7 149 RX6 yX6_tick wsX6_tick) := goodIn_app (goodIn_of _ (by decide +kernel)) ggX7_pass_X6_tick
set_option maxRecDepth 20000 in
theorem ggX7_pass_X7_settle : GoodIn wsX7_pass wsX7_settle := goodIn_r _ [135, 136, 2, 137, 138, 139, 140, 141, 113, 142, 115, 143, 111, 112, 114, 116, 117, 118, 119, 120, 121, 122, 123, 124, 125, 126, 127, 128, 148, 149, 150, 151, 152, 153, 154, 155, 156, 157, 158, 159, 160, 161, 162, 163, 164, 165, 166, 167, 168, 169, 170, 171, 172, 173, 174, 175, 176, 177] (by decide +kernel) (by decide +kernel)
set_option maxRecDepth 20000 in
theorem gX7_pass_X7_settle : GoodIn wsX7_pass (wsV RX7 151 RX7 yX7_settle wsX7_settle) := goodIn_app (goodIn_of _ (by decide +kernel)) ggX7_pass_X7_settle
set_option maxRecDepth 20000 in
theorem ggX7_pass_X7_count : GoodIn wsX7_pass wsX7_count := goodIn_r _ [147, 136, 138, 139, 140, 141, 113, 142, 115, 143, 111, 112, 114, 116, 117, 118, 119, 120, 121, 122, 123, 124, 125, 126, 127, 128, 148, 149, 150, 151, 152, 153, 154, 175, 176, 177] (by decide +kernel) (by decide +kernel)
set_option maxRecDepth 20000 in
theorem gX7_pass_X7_count : GoodIn wsX7_pass (wsV RX7 122 RX7 yX7_count wsX7_count) := goodIn_app (goodIn_of _ (by decide +kernel)) ggX7_pass_X7_count
theorem dX7_pass_0 : decode cX7_pass 0 = .ok (.aload_n 0, 1) := by decide +kernel
theorem dX7_pass_1 : decode cX7_pass 1 = .ok (.iconst 0, 1) := by decide +kernel
theorem dX7_pass_2 : decode cX7_pass 2 = .ok (.putfield 25, 3) := by decide +kernel
theorem dX7_pass_5 : decode cX7_pass 5 = .ok (.iload_n 1, 1) := by decide +kernel
theorem dX7_pass_6 : decode cX7_pass 6 = .ok (.iconst 1, 1) := by decide +kernel
theorem dX7_pass_7 : decode cX7_pass 7 = .ok (.bipush 100, 2) := by decide +kernel
theorem dX7_pass_9 : decode cX7_pass 9 = .ok (.invokestatic 48, 3) := by decide +kernel
theorem dX7_pass_12 : decode cX7_pass 12 = .ok (.ifCond .ne 9, 3) := by decide +kernel
theorem dX7_pass_15 : decode cX7_pass 15 = .ok (.aload_n 0, 1) := by decide +kernel
theorem dX7_pass_16 : decode cX7_pass 16 = .ok (.iconst 1, 1) := by decide +kernel
theorem dX7_pass_17 : decode cX7_pass 17 = .ok (.invokevirtual 52, 3) := by decide +kernel
theorem dX7_pass_20 : decode cX7_pass 20 = .ok (.ireturn, 1) := by decide +kernel
theorem dX7_pass_21 : decode cX7_pass 21 = .ok (.aload_n 0, 1) := by decide +kernel
theorem dX7_pass_22 : decode cX7_pass 22 = .ok (.getfield 12, 3) := by decide +kernel
theorem dX7_pass_25 : decode cX7_pass 25 = .ok (.getfield 59, 3) := by decide +kernel
theorem dX7_pass_28 : decode cX7_pass 28 = .ok (.iload_n 1, 1) := by decide +kernel
theorem dX7_pass_29 : decode cX7_pass 29 = .ok (.iadd, 1) := by decide +kernel
theorem dX7_pass_30 : decode cX7_pass 30 = .ok (.sipush 5000, 3) := by decide +kernel
theorem dX7_pass_33 : decode cX7_pass 33 = .ok (.if_icmp .le 9, 3) := by decide +kernel
theorem dX7_pass_36 : decode cX7_pass 36 = .ok (.aload_n 0, 1) := by decide +kernel
theorem dX7_pass_37 : decode cX7_pass 37 = .ok (.iconst 2, 1) := by decide +kernel
theorem dX7_pass_38 : decode cX7_pass 38 = .ok (.invokevirtual 52, 3) := by decide +kernel
theorem dX7_pass_41 : decode cX7_pass 41 = .ok (.ireturn, 1) := by decide +kernel
theorem dX7_pass_42 : decode cX7_pass 42 = .ok (.iconst 0, 1) := by decide +kernel
theorem dX7_pass_43 : decode cX7_pass 43 = .ok (.istore_n 2, 1) := by decide +kernel
theorem dX7_pass_44 : decode cX7_pass 44 = .ok (.iload_n 2, 1) := by decide +kernel
theorem dX7_pass_45 : decode cX7_pass 45 = .ok (.iload_n 1, 1) := by decide +kernel
theorem dX7_pass_46 : decode cX7_pass 46 = .ok (.if_icmp .ge 16, 3) := by decide +kernel
theorem dX7_pass_49 : decode cX7_pass 49 = .ok (.aload_n 0, 1) := by decide +kernel
theorem dX7_pass_50 : decode cX7_pass 50 = .ok (.getfield 12, 3) := by decide +kernel
theorem dX7_pass_53 : decode cX7_pass 53 = .ok (.invokevirtual 149, 3) := by decide +kernel
theorem dX7_pass_56 : decode cX7_pass 56 = .ok (.iinc 2 1, 3) := by decide +kernel
theorem dX7_pass_59 : decode cX7_pass 59 = .ok (.goto (-15), 3) := by decide +kernel
theorem dX7_pass_62 : decode cX7_pass 62 = .ok (.aload_n 0, 1) := by decide +kernel
theorem dX7_pass_63 : decode cX7_pass 63 = .ok (.invokevirtual 151, 3) := by decide +kernel
theorem dX7_pass_66 : decode cX7_pass 66 = .ok (.aload_n 0, 1) := by decide +kernel
theorem dX7_pass_67 : decode cX7_pass 67 = .ok (.iconst 2, 1) := by decide +kernel
theorem dX7_pass_68 : decode cX7_pass 68 = .ok (.invokevirtual 122, 3) := by decide +kernel
theorem dX7_pass_71 : decode cX7_pass 71 = .ok (.ireturn, 1) := by decide +kernel
set_option maxRecDepth 20000 in
theorem ggX7_sea_X7_in : GoodIn wsX7_sea wsX7_in := goodIn_r _ [7] (by decide +kernel) (by decide +kernel)
set_option maxRecDepth 20000 in
theorem gX7_sea_X7_in : GoodIn wsX7_sea (va_wsS RX7 48 yX7_in wsX7_in) := goodIn_app (goodIn_of _ (by decide +kernel)) ggX7_sea_X7_in
set_option maxRecDepth 20000 in
theorem ggX7_sea_X7_no : GoodIn wsX7_sea wsX7_no := goodIn_r _ [11, 1, 44, 45, 46, 47, 48, 49, 50] (by decide +kernel) (by decide +kernel)
set_option maxRecDepth 20000 in
theorem gX7_sea_X7_no : GoodIn wsX7_sea (wsV RX7 52 RX7 yX7_no wsX7_no) := goodIn_app (goodIn_of _ (by decide +kernel)) ggX7_sea_X7_no
set_option maxRecDepth 20000 in
theorem ggX7_sea_X6_sea : GoodIn wsX7_sea wsX6_sea := goodIn_r _ [16, 17, 18, 19, 20, 21, 22, 23, 24, 15, 25, 26, 27, 28, 29, 30, 31, 32, 33, 34, 35, 36, 37, 38, 39, 40, 41, 42, 43, 51, 52, 53, 54, 55, 56, 57, 58, 59, 60, 61, 62, 63, 64, 65, 66, 67, 68, 69, 70] (by decide +kernel) (by decide +kernel)
set_option maxRecDepth 20000 in
theorem gX7_sea_X6_sea : GoodIn wsX7_sea (wsV RX7 71 RX6 yX6_sea wsX6_sea) := goodIn_app (goodIn_of _ (by decide +kernel)) ggX7_sea_X6_sea
theorem dX7_sea_0 : decode cX7_sea 0 = .ok (.aload_n 0, 1) := by decide +kernel
theorem dX7_sea_1 : decode cX7_sea 1 = .ok (.iconst 0, 1) := by decide +kernel
theorem dX7_sea_2 : decode cX7_sea 2 = .ok (.putfield 25, 3) := by decide +kernel
theorem dX7_sea_5 : decode cX7_sea 5 = .ok (.iload_n 1, 1) := by decide +kernel
theorem dX7_sea_6 : decode cX7_sea 6 = .ok (.iconst 0, 1) := by decide +kernel
theorem dX7_sea_7 : decode cX7_sea 7 = .ok (.sipush 1000, 3) := by decide +kernel
theorem dX7_sea_10 : decode cX7_sea 10 = .ok (.invokestatic 48, 3) := by decide +kernel
theorem dX7_sea_13 : decode cX7_sea 13 = .ok (.ifCond .ne 10, 3) := by decide +kernel
theorem dX7_sea_16 : decode cX7_sea 16 = .ok (.aload_n 0, 1) := by decide +kernel
theorem dX7_sea_17 : decode cX7_sea 17 = .ok (.iconst 1, 1) := by decide +kernel
theorem dX7_sea_18 : decode cX7_sea 18 = .ok (.invokevirtual 52, 3) := by decide +kernel
theorem dX7_sea_21 : decode cX7_sea 21 = .ok (.i2d, 1) := by decide +kernel
theorem dX7_sea_22 : decode cX7_sea 22 = .ok (.dreturn, 1) := by decide +kernel
theorem dX7_sea_23 : decode cX7_sea 23 = .ok (.aload_n 0, 1) := by decide +kernel
theorem dX7_sea_24 : decode cX7_sea 24 = .ok (.getfield 12, 3) := by decide +kernel
theorem dX7_sea_27 : decode cX7_sea 27 = .ok (.aload_n 0, 1) := by decide +kernel
theorem dX7_sea_28 : decode cX7_sea 28 = .ok (.getfield 12, 3) := by decide +kernel
theorem dX7_sea_31 : decode cX7_sea 31 = .ok (.getfield 59, 3) := by decide +kernel
theorem dX7_sea_34 : decode cX7_sea 34 = .ok (.iload_n 1, 1) := by decide +kernel
theorem dX7_sea_35 : decode cX7_sea 35 = .ok (.iadd, 1) := by decide +kernel
theorem dX7_sea_36 : decode cX7_sea 36 = .ok (.invokevirtual 71, 3) := by decide +kernel
theorem dX7_sea_39 : decode cX7_sea 39 = .ok (.dreturn, 1) := by decide +kernel
set_option maxRecDepth 20000 in
theorem ggX7_pondNow_X6_area : GoodIn wsX7_pondNow wsX6_area := goodIn_r _ [11, 12, 13, 43, 44, 45, 46, 47, 48, 49, 50, 51, 52, 53, 54, 55, 56, 57, 58, 59, 60, 61, 62] (by decide +kernel) (by decide +kernel)
set_option maxRecDepth 20000 in
theorem gX7_pondNow_X6_area : GoodIn wsX7_pondNow (wsV RX7 161 RX6 yX6_area wsX6_area) := goodIn_app (goodIn_of _ (by decide +kernel)) ggX7_pondNow_X6_area
set_option maxRecDepth 20000 in
theorem ggX7_pondNow_X6_range : GoodIn wsX7_pondNow wsX6_range := goodIn_r _ [17, 18, 19, 20, 21, 22, 10, 23, 24, 25, 26, 27, 28, 29, 30, 31, 32, 33, 34, 35, 43, 44, 45, 46, 47, 48, 49, 50, 51, 52, 53, 54, 55, 56, 57, 58, 59, 60, 61, 62] (by decide +kernel) (by decide +kernel)
set_option maxRecDepth 20000 in
theorem gX7_pondNow_X6_range : GoodIn wsX7_pondNow (wsV RX7 168 RX6 yX6_range wsX6_range) := goodIn_app (goodIn_of _ (by decide +kernel)) ggX7_pondNow_X6_range
theorem dX7_pondNow_0 : decode cX7_pondNow 0 = .ok (.iload_n 1, 1) := by decide +kernel
theorem dX7_pondNow_1 : decode cX7_pondNow 1 = .ok (.tableswitch 73 0 4 #[35, 43, 52, 60, 68], 35) := by decide +kernel
theorem dX7_pondNow_36 : decode cX7_pondNow 36 = .ok (.aload_n 0, 1) := by decide +kernel
theorem dX7_pondNow_37 : decode cX7_pondNow 37 = .ok (.getfield 12, 3) := by decide +kernel
theorem dX7_pondNow_40 : decode cX7_pondNow 40 = .ok (.getfield 154, 3) := by decide +kernel
theorem dX7_pondNow_43 : decode cX7_pondNow 43 = .ok (.dreturn, 1) := by decide +kernel
theorem dX7_pondNow_44 : decode cX7_pondNow 44 = .ok (.aload_n 0, 1) := by decide +kernel
theorem dX7_pondNow_45 : decode cX7_pondNow 45 = .ok (.getfield 12, 3) := by decide +kernel
theorem dX7_pondNow_48 : decode cX7_pondNow 48 = .ok (.getfield 157, 3) := by decide +kernel
theorem dX7_pondNow_51 : decode cX7_pondNow 51 = .ok (.f2d, 1) := by decide +kernel
theorem dX7_pondNow_52 : decode cX7_pondNow 52 = .ok (.dreturn, 1) := by decide +kernel
theorem dX7_pondNow_53 : decode cX7_pondNow 53 = .ok (.aload_n 0, 1) := by decide +kernel
theorem dX7_pondNow_54 : decode cX7_pondNow 54 = .ok (.getfield 12, 3) := by decide +kernel
theorem dX7_pondNow_57 : decode cX7_pondNow 57 = .ok (.invokevirtual 161, 3) := by decide +kernel
theorem dX7_pondNow_60 : decode cX7_pondNow 60 = .ok (.dreturn, 1) := by decide +kernel
theorem dX7_pondNow_61 : decode cX7_pondNow 61 = .ok (.aload_n 0, 1) := by decide +kernel
theorem dX7_pondNow_62 : decode cX7_pondNow 62 = .ok (.getfield 12, 3) := by decide +kernel
theorem dX7_pondNow_65 : decode cX7_pondNow 65 = .ok (.getfield 165, 3) := by decide +kernel
theorem dX7_pondNow_68 : decode cX7_pondNow 68 = .ok (.dreturn, 1) := by decide +kernel
theorem dX7_pondNow_69 : decode cX7_pondNow 69 = .ok (.aload_n 0, 1) := by decide +kernel
theorem dX7_pondNow_70 : decode cX7_pondNow 70 = .ok (.getfield 137, 3) := by decide +kernel
theorem dX7_pondNow_73 : decode cX7_pondNow 73 = .ok (.dreturn, 1) := by decide +kernel
theorem dX7_pondNow_74 : decode cX7_pondNow 74 = .ok (.aload_n 0, 1) := by decide +kernel
theorem dX7_pondNow_75 : decode cX7_pondNow 75 = .ok (.getfield 12, 3) := by decide +kernel
theorem dX7_pondNow_78 : decode cX7_pondNow 78 = .ok (.aload_n 0, 1) := by decide +kernel
theorem dX7_pondNow_79 : decode cX7_pondNow 79 = .ok (.getfield 12, 3) := by decide +kernel
theorem dX7_pondNow_82 : decode cX7_pondNow 82 = .ok (.getfield 59, 3) := by decide +kernel
theorem dX7_pondNow_85 : decode cX7_pondNow 85 = .ok (.invokevirtual 168, 3) := by decide +kernel
theorem dX7_pondNow_88 : decode cX7_pondNow 88 = .ok (.dreturn, 1) := by decide +kernel
set_option maxRecDepth 20000 in
theorem ggX7_pond_X7_in : GoodIn wsX7_pond wsX7_in := goodIn_r _ [5] (by decide +kernel) (by decide +kernel)
set_option maxRecDepth 20000 in
theorem gX7_pond_X7_in : GoodIn wsX7_pond (va_wsS RX7 48 yX7_in wsX7_in) := goodIn_app (goodIn_of _ (by decide +kernel)) ggX7_pond_X7_in
set_option maxRecDepth 20000 in
theorem ggX7_pond_X7_no : GoodIn wsX7_pond wsX7_no := goodIn_r _ [9, 1, 49, 50, 51, 52, 53, 54, 55] (by decide +kernel) (by decide +kernel)
set_option maxRecDepth 20000 in
theorem gX7_pond_X7_no : GoodIn wsX7_pond (wsV RX7 52 RX7 yX7_no wsX7_no) := goodIn_app (goodIn_of _ (by decide +kernel)) ggX7_pond_X7_no
set_option maxRecDepth 20000 in
theorem ggX7_pond_X7_pondNow : GoodIn wsX7_pond wsX7_pondNow := goodIn_r _ [13, 14, 15, 16, 17, 18, 19, 20, 21, 22, 23, 24, 25, 26, 27, 28, 29, 30, 31, 32, 33, 34, 35, 36, 37, 38, 39, 40, 41, 42, 43, 44, 45, 46, 47, 48, 49, 50, 51, 52, 53, 54, 55, 56, 57, 58, 59, 60, 61, 62, 63, 64, 65, 66, 67, 68, 69, 70, 71, 72, 73, 74, 75] (by decide +kernel) (by decide +kernel)
set_option maxRecDepth 20000 in
theorem gX7_pond_X7_pondNow : GoodIn wsX7_pond (wsV RX7 171 RX7 yX7_pondNow wsX7_pondNow) := goodIn_app (goodIn_of _ (by decide +kernel)) ggX7_pond_X7_pondNow
theorem dX7_pond_0 : decode cX7_pond 0 = .ok (.aload_n 0, 1) := by decide +kernel
theorem dX7_pond_1 : decode cX7_pond 1 = .ok (.iconst 0, 1) := by decide +kernel
theorem dX7_pond_2 : decode cX7_pond 2 = .ok (.putfield 25, 3) := by decide +kernel
theorem dX7_pond_5 : decode cX7_pond 5 = .ok (.iload_n 1, 1) := by decide +kernel
theorem dX7_pond_6 : decode cX7_pond 6 = .ok (.iconst 0, 1) := by decide +kernel
theorem dX7_pond_7 : decode cX7_pond 7 = .ok (.iconst 5, 1) := by decide +kernel
theorem dX7_pond_8 : decode cX7_pond 8 = .ok (.invokestatic 48, 3) := by decide +kernel
theorem dX7_pond_11 : decode cX7_pond 11 = .ok (.ifCond .ne 10, 3) := by decide +kernel
theorem dX7_pond_14 : decode cX7_pond 14 = .ok (.aload_n 0, 1) := by decide +kernel
theorem dX7_pond_15 : decode cX7_pond 15 = .ok (.iconst 1, 1) := by decide +kernel
theorem dX7_pond_16 : decode cX7_pond 16 = .ok (.invokevirtual 52, 3) := by decide +kernel
theorem dX7_pond_19 : decode cX7_pond 19 = .ok (.i2d, 1) := by decide +kernel
theorem dX7_pond_20 : decode cX7_pond 20 = .ok (.dreturn, 1) := by decide +kernel
theorem dX7_pond_21 : decode cX7_pond 21 = .ok (.aload_n 0, 1) := by decide +kernel
theorem dX7_pond_22 : decode cX7_pond 22 = .ok (.iload_n 1, 1) := by decide +kernel
theorem dX7_pond_23 : decode cX7_pond 23 = .ok (.invokevirtual 171, 3) := by decide +kernel
theorem dX7_pond_26 : decode cX7_pond 26 = .ok (.dreturn, 1) := by decide +kernel
theorem dX7_pairNow_0 : decode cX7_pairNow 0 = .ok (.iload_n 2, 1) := by decide +kernel
theorem dX7_pairNow_1 : decode cX7_pairNow 1 = .ok (.ifCond .ne 15, 3) := by decide +kernel
theorem dX7_pairNow_4 : decode cX7_pairNow 4 = .ok (.aload_n 0, 1) := by decide +kernel
theorem dX7_pairNow_5 : decode cX7_pairNow 5 = .ok (.getfield 12, 3) := by decide +kernel
theorem dX7_pairNow_8 : decode cX7_pairNow 8 = .ok (.getfield 101, 3) := by decide +kernel
theorem dX7_pairNow_11 : decode cX7_pairNow 11 = .ok (.iload_n 1, 1) := by decide +kernel
theorem dX7_pairNow_12 : decode cX7_pairNow 12 = .ok (.iaload, 1) := by decide +kernel
theorem dX7_pairNow_13 : decode cX7_pairNow 13 = .ok (.goto 29, 3) := by decide +kernel
theorem dX7_pairNow_16 : decode cX7_pairNow 16 = .ok (.iload_n 2, 1) := by decide +kernel
theorem dX7_pairNow_17 : decode cX7_pairNow 17 = .ok (.iconst 1, 1) := by decide +kernel
theorem dX7_pairNow_18 : decode cX7_pairNow 18 = .ok (.if_icmp .ne 15, 3) := by decide +kernel
theorem dX7_pairNow_21 : decode cX7_pairNow 21 = .ok (.aload_n 0, 1) := by decide +kernel
theorem dX7_pairNow_22 : decode cX7_pairNow 22 = .ok (.getfield 12, 3) := by decide +kernel
theorem dX7_pairNow_25 : decode cX7_pairNow 25 = .ok (.getfield 119, 3) := by decide +kernel
theorem dX7_pairNow_28 : decode cX7_pairNow 28 = .ok (.iload_n 1, 1) := by decide +kernel
theorem dX7_pairNow_29 : decode cX7_pairNow 29 = .ok (.iaload, 1) := by decide +kernel
theorem dX7_pairNow_30 : decode cX7_pairNow 30 = .ok (.goto 12, 3) := by decide +kernel
theorem dX7_pairNow_33 : decode cX7_pairNow 33 = .ok (.aload_n 0, 1) := by decide +kernel
theorem dX7_pairNow_34 : decode cX7_pairNow 34 = .ok (.getfield 12, 3) := by decide +kernel
theorem dX7_pairNow_37 : decode cX7_pairNow 37 = .ok (.getfield 174, 3) := by decide +kernel
theorem dX7_pairNow_40 : decode cX7_pairNow 40 = .ok (.iload_n 1, 1) := by decide +kernel
theorem dX7_pairNow_41 : decode cX7_pairNow 41 = .ok (.iaload, 1) := by decide +kernel
theorem dX7_pairNow_42 : decode cX7_pairNow 42 = .ok (.ireturn, 1) := by decide +kernel
set_option maxRecDepth 20000 in
theorem ggX7_ofPair_X7_isPair : GoodIn wsX7_ofPair wsX7_isPair := goodIn_r _ [6, 7, 8, 9, 10, 5, 11, 23, 24, 25, 26, 27, 28, 29, 30, 31, 32, 33, 34, 35, 36, 37, 38, 39, 40, 41, 42, 43, 44, 45, 46, 47, 48, 49] (by decide +kernel) (by decide +kernel)
set_option maxRecDepth 20000 in
theorem gX7_ofPair_X7_isPair : GoodIn wsX7_ofPair (wsV RX7 112 RX7 yX7_isPair wsX7_isPair) := goodIn_app (goodIn_of _ (by decide +kernel)) ggX7_ofPair_X7_isPair
set_option maxRecDepth 20000 in
theorem ggX7_ofPair_X7_no : GoodIn wsX7_ofPair wsX7_no := goodIn_r _ [15, 1, 23, 24, 25, 26, 27, 28, 29] (by decide +kernel) (by decide +kernel)
set_option maxRecDepth 20000 in
theorem gX7_ofPair_X7_no : GoodIn wsX7_ofPair (wsV RX7 52 RX7 yX7_no wsX7_no) := goodIn_app (goodIn_of _ (by decide +kernel)) ggX7_ofPair_X7_no
set_option maxRecDepth 20000 in
theorem ggX7_ofPair_X7_in : GoodIn wsX7_ofPair wsX7_in := goodIn_r _ [11] (by decide +kernel) (by decide +kernel)
set_option maxRecDepth 20000 in
theorem gX7_ofPair_X7_in : GoodIn wsX7_ofPair (va_wsS RX7 48 yX7_in wsX7_in) := goodIn_app (goodIn_of _ (by decide +kernel)) ggX7_ofPair_X7_in
set_option maxRecDepth 20000 in
theorem ggX7_ofPair_X7_pairNow : GoodIn wsX7_ofPair wsX7_pairNow := goodIn_r _ [19, 7, 20, 21, 22, 23, 24, 25, 26, 27, 28, 29, 30, 31, 32, 33, 34, 35, 36, 37, 38, 39, 40, 41, 42, 43, 44, 45, 46, 47, 48, 49] (by decide +kernel) (by decide +kernel)
set_option maxRecDepth 20000 in
theorem gX7_ofPair_X7_pairNow : GoodIn wsX7_ofPair (wsV RX7 177 RX7 yX7_pairNow wsX7_pairNow) := goodIn_app (goodIn_of _ (by decide +kernel)) ggX7_ofPair_X7_pairNow
theorem dX7_ofPair_0 : decode cX7_ofPair 0 = .ok (.aload_n 0, 1) := by decide +kernel
theorem dX7_ofPair_1 : decode cX7_ofPair 1 = .ok (.iconst 0, 1) := by decide +kernel
theorem dX7_ofPair_2 : decode cX7_ofPair 2 = .ok (.putfield 25, 3) := by decide +kernel
theorem dX7_ofPair_5 : decode cX7_ofPair 5 = .ok (.aload_n 0, 1) := by decide +kernel
theorem dX7_ofPair_6 : decode cX7_ofPair 6 = .ok (.iload_n 1, 1) := by decide +kernel
theorem dX7_ofPair_7 : decode cX7_ofPair 7 = .ok (.invokevirtual 112, 3) := by decide +kernel
theorem dX7_ofPair_10 : decode cX7_ofPair 10 = .ok (.ifCond .ne 9, 3) := by decide +kernel
theorem dX7_ofPair_13 : decode cX7_ofPair 13 = .ok (.aload_n 0, 1) := by decide +kernel
theorem dX7_ofPair_14 : decode cX7_ofPair 14 = .ok (.iconst 1, 1) := by decide +kernel
theorem dX7_ofPair_15 : decode cX7_ofPair 15 = .ok (.invokevirtual 52, 3) := by decide +kernel
theorem dX7_ofPair_18 : decode cX7_ofPair 18 = .ok (.ireturn, 1) := by decide +kernel
theorem dX7_ofPair_19 : decode cX7_ofPair 19 = .ok (.iload_n 2, 1) := by decide +kernel
theorem dX7_ofPair_20 : decode cX7_ofPair 20 = .ok (.iconst 0, 1) := by decide +kernel
theorem dX7_ofPair_21 : decode cX7_ofPair 21 = .ok (.iconst 2, 1) := by decide +kernel
theorem dX7_ofPair_22 : decode cX7_ofPair 22 = .ok (.invokestatic 48, 3) := by decide +kernel
theorem dX7_ofPair_25 : decode cX7_ofPair 25 = .ok (.ifCond .ne 9, 3) := by decide +kernel
theorem dX7_ofPair_28 : decode cX7_ofPair 28 = .ok (.aload_n 0, 1) := by decide +kernel
theorem dX7_ofPair_29 : decode cX7_ofPair 29 = .ok (.iconst 2, 1) := by decide +kernel
theorem dX7_ofPair_30 : decode cX7_ofPair 30 = .ok (.invokevirtual 52, 3) := by decide +kernel
theorem dX7_ofPair_33 : decode cX7_ofPair 33 = .ok (.ireturn, 1) := by decide +kernel
theorem dX7_ofPair_34 : decode cX7_ofPair 34 = .ok (.aload_n 0, 1) := by decide +kernel
theorem dX7_ofPair_35 : decode cX7_ofPair 35 = .ok (.iload_n 1, 1) := by decide +kernel
theorem dX7_ofPair_36 : decode cX7_ofPair 36 = .ok (.iload_n 2, 1) := by decide +kernel
theorem dX7_ofPair_37 : decode cX7_ofPair 37 = .ok (.invokevirtual 177, 3) := by decide +kernel
theorem dX7_ofPair_40 : decode cX7_ofPair 40 = .ok (.ireturn, 1) := by decide +kernel
set_option maxRecDepth 20000 in
theorem ggX7_dull_X7_isPair : GoodIn wsX7_dull wsX7_isPair := goodIn_r _ [8, 2, 9, 10, 11, 7, 12, 17, 18, 19, 20, 21, 22, 23, 24, 25, 26, 27, 28, 29, 30, 31, 32, 33, 34, 35, 36, 37, 38, 39, 40, 41, 42, 43] (by decide +kernel) (by decide +kernel)
set_option maxRecDepth 20000 in
theorem gX7_dull_X7_isPair : GoodIn wsX7_dull (wsV RX7 112 RX7 yX7_isPair wsX7_isPair) := goodIn_app (goodIn_of _ (by decide +kernel)) ggX7_dull_X7_isPair
set_option maxRecDepth 20000 in
theorem ggX7_dull_X7_no : GoodIn wsX7_dull wsX7_no := goodIn_r _ [16, 1, 17, 18, 19, 20, 21, 22, 23] (by decide +kernel) (by decide +kernel)
set_option maxRecDepth 20000 in
theorem gX7_dull_X7_no : GoodIn wsX7_dull (wsV RX7 52 RX7 yX7_no wsX7_no) := goodIn_app (goodIn_of _ (by decide +kernel)) ggX7_dull_X7_no
theorem dX7_dull_0 : decode cX7_dull 0 = .ok (.aload_n 0, 1) := by decide +kernel
theorem dX7_dull_1 : decode cX7_dull 1 = .ok (.iconst 0, 1) := by decide +kernel
theorem dX7_dull_2 : decode cX7_dull 2 = .ok (.putfield 25, 3) := by decide +kernel
theorem dX7_dull_5 : decode cX7_dull 5 = .ok (.aload_n 0, 1) := by decide +kernel
theorem dX7_dull_6 : decode cX7_dull 6 = .ok (.iload_n 1, 1) := by decide +kernel
theorem dX7_dull_7 : decode cX7_dull 7 = .ok (.invokevirtual 112, 3) := by decide +kernel
theorem dX7_dull_10 : decode cX7_dull 10 = .ok (.ifCond .ne 10, 3) := by decide +kernel
theorem dX7_dull_13 : decode cX7_dull 13 = .ok (.aload_n 0, 1) := by decide +kernel
theorem dX7_dull_14 : decode cX7_dull 14 = .ok (.iconst 1, 1) := by decide +kernel
theorem dX7_dull_15 : decode cX7_dull 15 = .ok (.invokevirtual 52, 3) := by decide +kernel
theorem dX7_dull_18 : decode cX7_dull 18 = .ok (.i2d, 1) := by decide +kernel
theorem dX7_dull_19 : decode cX7_dull 19 = .ok (.dreturn, 1) := by decide +kernel
theorem dX7_dull_20 : decode cX7_dull 20 = .ok (.aload_n 0, 1) := by decide +kernel
theorem dX7_dull_21 : decode cX7_dull 21 = .ok (.getfield 12, 3) := by decide +kernel
theorem dX7_dull_24 : decode cX7_dull 24 = .ok (.getfield 127, 3) := by decide +kernel
theorem dX7_dull_27 : decode cX7_dull 27 = .ok (.iload_n 1, 1) := by decide +kernel
theorem dX7_dull_28 : decode cX7_dull 28 = .ok (.faload, 1) := by decide +kernel
theorem dX7_dull_29 : decode cX7_dull 29 = .ok (.f2d, 1) := by decide +kernel
theorem dX7_dull_30 : decode cX7_dull 30 = .ok (.dreturn, 1) := by decide +kernel
set_option maxRecDepth 20000 in
theorem ggX7_lotNow_X6_pairOf : GoodIn wsX7_lotNow wsX6_pairOf := goodIn_r _ [8, 9, 10, 37, 38, 39, 40, 41, 42, 43, 44, 45, 46, 47, 48, 49, 50, 51, 52, 53, 54, 55, 56] (by decide +kernel) (by decide +kernel)
set_option maxRecDepth 20000 in
theorem gX7_lotNow_X6_pairOf : GoodIn wsX7_lotNow (wsV RX7 180 RX6 yX6_pairOf wsX6_pairOf) := goodIn_app (goodIn_of _ (by decide +kernel)) ggX7_lotNow_X6_pairOf
set_option maxRecDepth 20000 in
theorem ggX7_lotNow_Jx4a65c_get_915e3 : GoodIn wsX7_lotNow wsJx4a65c_get_915e3 := goodIn_r _ [15, 16, 17, 18, 19, 20, 21, 22, 23, 24, 25, 26, 27, 14, 28, 29, 57, 58, 59] (by decide +kernel) (by decide +kernel)
set_option maxRecDepth 20000 in
theorem gX7_lotNow_Jx4a65c_get_915e3_f39Jx4a65c : GoodIn wsX7_lotNow (va_wsF RX7 39 RJx4a65c ⟨"java/util/List", "get", "(I)Ljava/lang/Object;"⟩ yJx4a65c_get_915e3 wsJx4a65c_get_915e3) := goodIn_app (goodIn_of _ (by decide +kernel)) ggX7_lotNow_Jx4a65c_get_915e3
theorem dX7_lotNow_0 : decode cX7_lotNow 0 = .ok (.iload_n 2, 1) := by decide +kernel
theorem dX7_lotNow_1 : decode cX7_lotNow 1 = .ok (.iconst 5, 1) := by decide +kernel
theorem dX7_lotNow_2 : decode cX7_lotNow 2 = .ok (.if_icmp .ne 14, 3) := by decide +kernel
theorem dX7_lotNow_5 : decode cX7_lotNow 5 = .ok (.aload_n 0, 1) := by decide +kernel
theorem dX7_lotNow_6 : decode cX7_lotNow 6 = .ok (.getfield 12, 3) := by decide +kernel
theorem dX7_lotNow_9 : decode cX7_lotNow 9 = .ok (.iload_n 1, 1) := by decide +kernel
theorem dX7_lotNow_10 : decode cX7_lotNow 10 = .ok (.invokevirtual 180, 3) := by decide +kernel
theorem dX7_lotNow_13 : decode cX7_lotNow 13 = .ok (.goto 18, 3) := by decide +kernel
theorem dX7_lotNow_16 : decode cX7_lotNow 16 = .ok (.aload_n 0, 1) := by decide +kernel
theorem dX7_lotNow_17 : decode cX7_lotNow 17 = .ok (.getfield 21, 3) := by decide +kernel
theorem dX7_lotNow_20 : decode cX7_lotNow 20 = .ok (.iload_n 1, 1) := by decide +kernel
theorem dX7_lotNow_21 : decode cX7_lotNow 21 = .ok (.invokeinterface 39 2, 5) := by decide +kernel
theorem dX7_lotNow_26 : decode cX7_lotNow 26 = .ok (.checkcast 43, 3) := by decide +kernel
theorem dX7_lotNow_29 : decode cX7_lotNow 29 = .ok (.iload_n 2, 1) := by decide +kernel
theorem dX7_lotNow_30 : decode cX7_lotNow 30 = .ok (.iaload, 1) := by decide +kernel
theorem dX7_lotNow_31 : decode cX7_lotNow 31 = .ok (.ireturn, 1) := by decide +kernel
set_option maxRecDepth 20000 in
theorem ggX7_ofLot_X7_isLot : GoodIn wsX7_ofLot wsX7_isLot := goodIn_r _ [6, 7, 8, 9, 10, 11, 12, 13, 14, 15, 5, 16, 51, 52, 53, 54, 55, 56, 57, 58, 59, 60] (by decide +kernel) (by decide +kernel)
set_option maxRecDepth 20000 in
theorem gX7_ofLot_X7_isLot : GoodIn wsX7_ofLot (wsV RX7 116 RX7 yX7_isLot wsX7_isLot) := goodIn_app (goodIn_of _ (by decide +kernel)) ggX7_ofLot_X7_isLot
set_option maxRecDepth 20000 in
theorem ggX7_ofLot_X7_no : GoodIn wsX7_ofLot wsX7_no := goodIn_r _ [20, 1, 51, 52, 53, 54, 55, 56, 57] (by decide +kernel) (by decide +kernel)
set_option maxRecDepth 20000 in
theorem gX7_ofLot_X7_no : GoodIn wsX7_ofLot (wsV RX7 52 RX7 yX7_no wsX7_no) := goodIn_app (goodIn_of _ (by decide +kernel)) ggX7_ofLot_X7_no
set_option maxRecDepth 20000 in
theorem ggX7_ofLot_X7_in : GoodIn wsX7_ofLot wsX7_in := goodIn_r _ [16] (by decide +kernel) (by decide +kernel)
set_option maxRecDepth 20000 in
theorem gX7_ofLot_X7_in : GoodIn wsX7_ofLot (va_wsS RX7 48 yX7_in wsX7_in) := goodIn_app (goodIn_of _ (by decide +kernel)) ggX7_ofLot_X7_in
set_option maxRecDepth 20000 in
theorem ggX7_ofLot_X7_lotNow : GoodIn wsX7_ofLot wsX7_lotNow := goodIn_r _ [24, 25, 7, 26, 27, 28, 29, 30, 31, 32, 33, 34, 35, 36, 11, 37, 13, 38, 39, 40, 41, 42, 43, 44, 45, 46, 47, 48, 49, 50, 51, 52, 53, 54, 55, 56, 57, 61, 62, 63, 64, 65, 66, 67, 68, 69, 70, 71, 72, 73, 74, 75, 76, 77, 78, 79, 80, 58, 59, 60] (by decide +kernel) (by decide +kernel)
set_option maxRecDepth 20000 in
theorem gX7_ofLot_X7_lotNow : GoodIn wsX7_ofLot (wsV RX7 183 RX7 yX7_lotNow wsX7_lotNow) := goodIn_app (goodIn_of _ (by decide +kernel)) ggX7_ofLot_X7_lotNow
theorem dX7_ofLot_0 : decode cX7_ofLot 0 = .ok (.aload_n 0, 1) := by decide +kernel
theorem dX7_ofLot_1 : decode cX7_ofLot 1 = .ok (.iconst 0, 1) := by decide +kernel
theorem dX7_ofLot_2 : decode cX7_ofLot 2 = .ok (.putfield 25, 3) := by decide +kernel
theorem dX7_ofLot_5 : decode cX7_ofLot 5 = .ok (.aload_n 0, 1) := by decide +kernel
theorem dX7_ofLot_6 : decode cX7_ofLot 6 = .ok (.iload_n 1, 1) := by decide +kernel
theorem dX7_ofLot_7 : decode cX7_ofLot 7 = .ok (.invokevirtual 116, 3) := by decide +kernel
theorem dX7_ofLot_10 : decode cX7_ofLot 10 = .ok (.ifCond .ne 9, 3) := by decide +kernel
theorem dX7_ofLot_13 : decode cX7_ofLot 13 = .ok (.aload_n 0, 1) := by decide +kernel
theorem dX7_ofLot_14 : decode cX7_ofLot 14 = .ok (.iconst 1, 1) := by decide +kernel
theorem dX7_ofLot_15 : decode cX7_ofLot 15 = .ok (.invokevirtual 52, 3) := by decide +kernel
theorem dX7_ofLot_18 : decode cX7_ofLot 18 = .ok (.ireturn, 1) := by decide +kernel
theorem dX7_ofLot_19 : decode cX7_ofLot 19 = .ok (.iload_n 2, 1) := by decide +kernel
theorem dX7_ofLot_20 : decode cX7_ofLot 20 = .ok (.iconst 0, 1) := by decide +kernel
theorem dX7_ofLot_21 : decode cX7_ofLot 21 = .ok (.iconst 5, 1) := by decide +kernel
theorem dX7_ofLot_22 : decode cX7_ofLot 22 = .ok (.invokestatic 48, 3) := by decide +kernel
theorem dX7_ofLot_25 : decode cX7_ofLot 25 = .ok (.ifCond .ne 9, 3) := by decide +kernel
theorem dX7_ofLot_28 : decode cX7_ofLot 28 = .ok (.aload_n 0, 1) := by decide +kernel
theorem dX7_ofLot_29 : decode cX7_ofLot 29 = .ok (.iconst 2, 1) := by decide +kernel
theorem dX7_ofLot_30 : decode cX7_ofLot 30 = .ok (.invokevirtual 52, 3) := by decide +kernel
theorem dX7_ofLot_33 : decode cX7_ofLot 33 = .ok (.ireturn, 1) := by decide +kernel
theorem dX7_ofLot_34 : decode cX7_ofLot 34 = .ok (.aload_n 0, 1) := by decide +kernel
theorem dX7_ofLot_35 : decode cX7_ofLot 35 = .ok (.iload_n 1, 1) := by decide +kernel
theorem dX7_ofLot_36 : decode cX7_ofLot 36 = .ok (.iload_n 2, 1) := by decide +kernel
theorem dX7_ofLot_37 : decode cX7_ofLot 37 = .ok (.invokevirtual 183, 3) := by decide +kernel
theorem dX7_ofLot_40 : decode cX7_ofLot 40 = .ok (.ireturn, 1) := by decide +kernel
set_option maxRecDepth 20000 in
theorem ggX7_left_X7_isLot : GoodIn wsX7_left wsX7_isLot := goodIn_r _ [8, 9, 10, 11, 12, 13, 14, 15, 16, 17, 7, 18, 23, 24, 25, 26, 27, 28, 29, 50, 51, 52] (by decide +kernel) (by decide +kernel)
set_option maxRecDepth 20000 in
theorem gX7_left_X7_isLot : GoodIn wsX7_left (wsV RX7 116 RX7 yX7_isLot wsX7_isLot) := goodIn_app (goodIn_of _ (by decide +kernel)) ggX7_left_X7_isLot
set_option maxRecDepth 20000 in
theorem ggX7_left_X7_no : GoodIn wsX7_left wsX7_no := goodIn_r _ [22, 1, 23, 24, 25, 26, 27, 28, 29] (by decide +kernel) (by decide +kernel)
set_option maxRecDepth 20000 in
theorem gX7_left_X7_no : GoodIn wsX7_left (wsV RX7 52 RX7 yX7_no wsX7_no) := goodIn_app (goodIn_of _ (by decide +kernel)) ggX7_left_X7_no
theorem dX7_left_0 : decode cX7_left 0 = .ok (.aload_n 0, 1) := by decide +kernel
theorem dX7_left_1 : decode cX7_left 1 = .ok (.iconst 0, 1) := by decide +kernel
theorem dX7_left_2 : decode cX7_left 2 = .ok (.putfield 25, 3) := by decide +kernel
theorem dX7_left_5 : decode cX7_left 5 = .ok (.aload_n 0, 1) := by decide +kernel
theorem dX7_left_6 : decode cX7_left 6 = .ok (.iload_n 1, 1) := by decide +kernel
theorem dX7_left_7 : decode cX7_left 7 = .ok (.invokevirtual 116, 3) := by decide +kernel
theorem dX7_left_10 : decode cX7_left 10 = .ok (.ifCond .ne 10, 3) := by decide +kernel
theorem dX7_left_13 : decode cX7_left 13 = .ok (.aload_n 0, 1) := by decide +kernel
theorem dX7_left_14 : decode cX7_left 14 = .ok (.iconst 1, 1) := by decide +kernel
theorem dX7_left_15 : decode cX7_left 15 = .ok (.invokevirtual 52, 3) := by decide +kernel
theorem dX7_left_18 : decode cX7_left 18 = .ok (.i2d, 1) := by decide +kernel
theorem dX7_left_19 : decode cX7_left 19 = .ok (.dreturn, 1) := by decide +kernel
theorem dX7_left_20 : decode cX7_left 20 = .ok (.aload_n 0, 1) := by decide +kernel
theorem dX7_left_21 : decode cX7_left 21 = .ok (.getfield 12, 3) := by decide +kernel
theorem dX7_left_24 : decode cX7_left 24 = .ok (.getfield 104, 3) := by decide +kernel
theorem dX7_left_27 : decode cX7_left 27 = .ok (.iload_n 1, 1) := by decide +kernel
theorem dX7_left_28 : decode cX7_left 28 = .ok (.daload, 1) := by decide +kernel
theorem dX7_left_29 : decode cX7_left 29 = .ok (.dreturn, 1) := by decide +kernel
set_option maxRecDepth 20000 in
theorem ggX7_manyNow_X6_age : GoodIn wsX7_manyNow wsX6_age := goodIn_r _ [17, 18, 74, 75, 76, 77, 78, 79, 80, 81, 82, 83, 84, 85, 86, 87, 88, 89, 90, 91, 92, 93] (by decide +kernel) (by decide +kernel)
set_option maxRecDepth 20000 in
theorem gX7_manyNow_X6_age : GoodIn wsX7_manyNow (wsV RX7 62 RX6 yX6_age wsX6_age) := goodIn_app (goodIn_of _ (by decide +kernel)) ggX7_manyNow_X6_age
set_option maxRecDepth 20000 in
theorem ggX7_manyNow_X6_spring : GoodIn wsX7_manyNow wsX6_spring := goodIn_r _ [22, 23, 24, 25, 26, 27, 28, 29, 30, 14, 15, 16, 17, 18, 74, 75, 76, 77, 78, 79, 80, 81, 82, 83, 84, 85, 86, 87, 88, 89, 90, 91, 92, 93] (by decide +kernel) (by decide +kernel)
set_option maxRecDepth 20000 in
theorem gX7_manyNow_X6_spring : GoodIn wsX7_manyNow (wsV RX7 186 RX6 yX6_spring wsX6_spring) := goodIn_app (goodIn_of _ (by decide +kernel)) ggX7_manyNow_X6_spring
set_option maxRecDepth 20000 in
theorem ggX7_manyNow_Jx4a65c_size_8abf5 : GoodIn wsX7_manyNow wsJx4a65c_size_8abf5 := goodIn_r _ [35, 36, 94, 95, 96] (by decide +kernel) (by decide +kernel)
set_option maxRecDepth 20000 in
theorem gX7_manyNow_Jx4a65c_size_8abf5_f29Jx4a65c : GoodIn wsX7_manyNow (va_wsF RX7 29 RJx4a65c ⟨"java/util/List", "size", "()I"⟩ yJx4a65c_size_8abf5 wsJx4a65c_size_8abf5) := goodIn_app (goodIn_of _ (by decide +kernel)) ggX7_manyNow_Jx4a65c_size_8abf5
set_option maxRecDepth 20000 in
theorem ggX7_manyNow_X7_count : GoodIn wsX7_manyNow wsX7_count := goodIn_r _ [41, 8, 42, 31, 32, 33, 34, 35, 36, 43, 44, 45, 46, 47, 48, 49, 50, 51, 52, 53, 54, 55, 56, 57, 58, 59, 67, 68, 69, 70, 71, 72, 73, 94, 95, 96] (by decide +kernel) (by decide +kernel)
set_option maxRecDepth 20000 in
theorem gX7_manyNow_X7_count : GoodIn wsX7_manyNow (wsV RX7 122 RX7 yX7_count wsX7_count) := goodIn_app (goodIn_of _ (by decide +kernel)) ggX7_manyNow_X7_count
set_option maxRecDepth 20000 in
theorem ggX7_manyNow_X6_isAwake : GoodIn wsX7_manyNow wsX6_isAwake := goodIn_r _ [63, 64, 65, 66, 74, 75, 76, 77, 78, 79, 80, 81, 82, 83, 84, 85, 86, 87, 88, 89, 90, 91, 92, 93] (by decide +kernel) (by decide +kernel)
set_option maxRecDepth 20000 in
theorem gX7_manyNow_X6_isAwake : GoodIn wsX7_manyNow (wsV RX7 94 RX6 yX6_isAwake wsX6_isAwake) := goodIn_app (goodIn_of _ (by decide +kernel)) ggX7_manyNow_X6_isAwake
theorem dX7_manyNow_0 : decode cX7_manyNow 0 = .ok (.aload_n 0, 1) := by decide +kernel
theorem dX7_manyNow_1 : decode cX7_manyNow 1 = .ok (.getfield 12, 3) := by decide +kernel
theorem dX7_manyNow_4 : decode cX7_manyNow 4 = .ok (.getfield 174, 3) := by decide +kernel
theorem dX7_manyNow_7 : decode cX7_manyNow 7 = .ok (.iconst 0, 1) := by decide +kernel
theorem dX7_manyNow_8 : decode cX7_manyNow 8 = .ok (.iaload, 1) := by decide +kernel
theorem dX7_manyNow_9 : decode cX7_manyNow 9 = .ok (.aload_n 0, 1) := by decide +kernel
theorem dX7_manyNow_10 : decode cX7_manyNow 10 = .ok (.getfield 12, 3) := by decide +kernel
theorem dX7_manyNow_13 : decode cX7_manyNow 13 = .ok (.getfield 174, 3) := by decide +kernel
theorem dX7_manyNow_16 : decode cX7_manyNow 16 = .ok (.iconst 1, 1) := by decide +kernel
theorem dX7_manyNow_17 : decode cX7_manyNow 17 = .ok (.iaload, 1) := by decide +kernel
theorem dX7_manyNow_18 : decode cX7_manyNow 18 = .ok (.iadd, 1) := by decide +kernel
theorem dX7_manyNow_19 : decode cX7_manyNow 19 = .ok (.aload_n 0, 1) := by decide +kernel
theorem dX7_manyNow_20 : decode cX7_manyNow 20 = .ok (.getfield 12, 3) := by decide +kernel
theorem dX7_manyNow_23 : decode cX7_manyNow 23 = .ok (.getfield 174, 3) := by decide +kernel
theorem dX7_manyNow_26 : decode cX7_manyNow 26 = .ok (.iconst 2, 1) := by decide +kernel
theorem dX7_manyNow_27 : decode cX7_manyNow 27 = .ok (.iaload, 1) := by decide +kernel
theorem dX7_manyNow_28 : decode cX7_manyNow 28 = .ok (.iadd, 1) := by decide +kernel
theorem dX7_manyNow_29 : decode cX7_manyNow 29 = .ok (.istore_n 2, 1) := by decide +kernel
theorem dX7_manyNow_30 : decode cX7_manyNow 30 = .ok (.bipush 17, 2) := by decide +kernel
theorem dX7_manyNow_32 : decode cX7_manyNow 32 = .ok (.newarray .int, 2) := by decide +kernel
theorem dX7_manyNow_34 : decode cX7_manyNow 34 = .ok (.dup, 1) := by decide +kernel
theorem dX7_manyNow_35 : decode cX7_manyNow 35 = .ok (.iconst 0, 1) := by decide +kernel
theorem dX7_manyNow_36 : decode cX7_manyNow 36 = .ok (.aload_n 0, 1) := by decide +kernel
theorem dX7_manyNow_37 : decode cX7_manyNow 37 = .ok (.getfield 12, 3) := by decide +kernel
theorem dX7_manyNow_40 : decode cX7_manyNow 40 = .ok (.getfield 59, 3) := by decide +kernel
theorem dX7_manyNow_43 : decode cX7_manyNow 43 = .ok (.iastore, 1) := by decide +kernel
theorem dX7_manyNow_44 : decode cX7_manyNow 44 = .ok (.dup, 1) := by decide +kernel
theorem dX7_manyNow_45 : decode cX7_manyNow 45 = .ok (.iconst 1, 1) := by decide +kernel
theorem dX7_manyNow_46 : decode cX7_manyNow 46 = .ok (.aload_n 0, 1) := by decide +kernel
theorem dX7_manyNow_47 : decode cX7_manyNow 47 = .ok (.getfield 12, 3) := by decide +kernel
theorem dX7_manyNow_50 : decode cX7_manyNow 50 = .ok (.getfield 59, 3) := by decide +kernel
theorem dX7_manyNow_53 : decode cX7_manyNow 53 = .ok (.bipush 48, 2) := by decide +kernel
theorem dX7_manyNow_55 : decode cX7_manyNow 55 = .ok (.idiv, 1) := by decide +kernel
theorem dX7_manyNow_56 : decode cX7_manyNow 56 = .ok (.iastore, 1) := by decide +kernel
theorem dX7_manyNow_57 : decode cX7_manyNow 57 = .ok (.dup, 1) := by decide +kernel
theorem dX7_manyNow_58 : decode cX7_manyNow 58 = .ok (.iconst 2, 1) := by decide +kernel
theorem dX7_manyNow_59 : decode cX7_manyNow 59 = .ok (.aload_n 0, 1) := by decide +kernel
theorem dX7_manyNow_60 : decode cX7_manyNow 60 = .ok (.getfield 12, 3) := by decide +kernel
theorem dX7_manyNow_63 : decode cX7_manyNow 63 = .ok (.aload_n 0, 1) := by decide +kernel
theorem dX7_manyNow_64 : decode cX7_manyNow 64 = .ok (.getfield 12, 3) := by decide +kernel
theorem dX7_manyNow_67 : decode cX7_manyNow 67 = .ok (.getfield 59, 3) := by decide +kernel
theorem dX7_manyNow_70 : decode cX7_manyNow 70 = .ok (.invokevirtual 62, 3) := by decide +kernel
theorem dX7_manyNow_73 : decode cX7_manyNow 73 = .ok (.iastore, 1) := by decide +kernel
theorem dX7_manyNow_74 : decode cX7_manyNow 74 = .ok (.dup, 1) := by decide +kernel
theorem dX7_manyNow_75 : decode cX7_manyNow 75 = .ok (.iconst 3, 1) := by decide +kernel
theorem dX7_manyNow_76 : decode cX7_manyNow 76 = .ok (.aload_n 0, 1) := by decide +kernel
theorem dX7_manyNow_77 : decode cX7_manyNow 77 = .ok (.getfield 12, 3) := by decide +kernel
theorem dX7_manyNow_80 : decode cX7_manyNow 80 = .ok (.aload_n 0, 1) := by decide +kernel
theorem dX7_manyNow_81 : decode cX7_manyNow 81 = .ok (.getfield 12, 3) := by decide +kernel
theorem dX7_manyNow_84 : decode cX7_manyNow 84 = .ok (.getfield 59, 3) := by decide +kernel
theorem dX7_manyNow_87 : decode cX7_manyNow 87 = .ok (.invokevirtual 186, 3) := by decide +kernel
theorem dX7_manyNow_90 : decode cX7_manyNow 90 = .ok (.iastore, 1) := by decide +kernel
theorem dX7_manyNow_91 : decode cX7_manyNow 91 = .ok (.dup, 1) := by decide +kernel
theorem dX7_manyNow_92 : decode cX7_manyNow 92 = .ok (.iconst 4, 1) := by decide +kernel
