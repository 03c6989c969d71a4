theorem dX5_take_17 : decode cX5_take 17 = .ok (.dup, 1) := by decide +kernel
theorem dX5_take_18 : decode cX5_take 18 = .ok (.ldc 160, 2) := by decide +kernel
theorem dX5_take_20 : decode cX5_take 20 = .ok (.invokespecial 144, 3) := by decide +kernel
theorem dX5_take_23 : decode cX5_take 23 = .ok (.athrow, 1) := by decide +kernel
theorem dX5_take_24 : decode cX5_take 24 = .ok (.aload_n 0, 1) := by decide +kernel
theorem dX5_take_25 : decode cX5_take 25 = .ok (.getfield 10, 3) := by decide +kernel
theorem dX5_take_28 : decode cX5_take 28 = .ok (.getfield 102, 3) := by decide +kernel
theorem dX5_take_31 : decode cX5_take 31 = .ok (.getfield 154, 3) := by decide +kernel
theorem dX5_take_34 : decode cX5_take 34 = .ok (.iload_n 1, 1) := by decide +kernel
theorem dX5_take_35 : decode cX5_take 35 = .ok (.iaload, 1) := by decide +kernel
theorem dX5_take_36 : decode cX5_take 36 = .ok (.istore_n 2, 1) := by decide +kernel
theorem dX5_take_37 : decode cX5_take 37 = .ok (.aload_n 0, 1) := by decide +kernel
theorem dX5_take_38 : decode cX5_take 38 = .ok (.getfield 10, 3) := by decide +kernel
theorem dX5_take_41 : decode cX5_take 41 = .ok (.getfield 119, 3) := by decide +kernel
theorem dX5_take_44 : decode cX5_take 44 = .ok (.iload_n 2, 1) := by decide +kernel
theorem dX5_take_45 : decode cX5_take 45 = .ok (.invokevirtual 139, 3) := by decide +kernel
theorem dX5_take_48 : decode cX5_take 48 = .ok (.ifCond .ne 13, 3) := by decide +kernel
theorem dX5_take_51 : decode cX5_take 51 = .ok (.new 65, 3) := by decide +kernel
theorem dX5_take_54 : decode cX5_take 54 = .ok (.dup, 1) := by decide +kernel
theorem dX5_take_55 : decode cX5_take 55 = .ok (.ldc 162, 2) := by decide +kernel
theorem dX5_take_57 : decode cX5_take 57 = .ok (.invokespecial 69, 3) := by decide +kernel
theorem dX5_take_60 : decode cX5_take 60 = .ok (.athrow, 1) := by decide +kernel
theorem dX5_take_61 : decode cX5_take 61 = .ok (.aload_n 0, 1) := by decide +kernel
theorem dX5_take_62 : decode cX5_take 62 = .ok (.getfield 10, 3) := by decide +kernel
theorem dX5_take_65 : decode cX5_take 65 = .ok (.getfield 102, 3) := by decide +kernel
theorem dX5_take_68 : decode cX5_take 68 = .ok (.getfield 154, 3) := by decide +kernel
theorem dX5_take_71 : decode cX5_take 71 = .ok (.iload_n 1, 1) := by decide +kernel
theorem dX5_take_72 : decode cX5_take 72 = .ok (.iconst (-1), 1) := by decide +kernel
theorem dX5_take_73 : decode cX5_take 73 = .ok (.iastore, 1) := by decide +kernel
theorem dX5_take_74 : decode cX5_take 74 = .ok (.aload_n 0, 1) := by decide +kernel
theorem dX5_take_75 : decode cX5_take 75 = .ok (.getfield 10, 3) := by decide +kernel
theorem dX5_take_78 : decode cX5_take 78 = .ok (.getfield 119, 3) := by decide +kernel
theorem dX5_take_81 : decode cX5_take 81 = .ok (.getfield 145, 3) := by decide +kernel
theorem dX5_take_84 : decode cX5_take 84 = .ok (.iload_n 2, 1) := by decide +kernel
theorem dX5_take_85 : decode cX5_take 85 = .ok (.iconst 0, 1) := by decide +kernel
theorem dX5_take_86 : decode cX5_take 86 = .ok (.iastore, 1) := by decide +kernel
theorem dX5_take_87 : decode cX5_take 87 = .ok (.iload_n 2, 1) := by decide +kernel
theorem dX5_take_88 : decode cX5_take 88 = .ok (.ireturn, 1) := by decide +kernel
set_option maxRecDepth 20000 in
theorem ggX5_dress_X2_has : GoodIn wsX5_dress wsX2_has := goodIn_r _ [14, 15, 39, 40, 41, 42, 43] (by decide +kernel) (by decide +kernel)
set_option maxRecDepth 20000 in
theorem gX5_dress_X2_has : GoodIn wsX5_dress (wsV RX5 135 RX2 yX2_has wsX2_has) := goodIn_app (goodIn_of _ (by decide +kernel)) ggX5_dress_X2_has
set_option maxRecDepth 20000 in
theorem ggX5_dress_X2_isFree : GoodIn wsX5_dress wsX2_isFree := goodIn_r _ [19, 20, 21, 39, 40, 41, 42, 43] (by decide +kernel) (by decide +kernel)
set_option maxRecDepth 20000 in
theorem gX5_dress_X2_isFree : GoodIn wsX5_dress (wsV RX5 149 RX2 yX2_isFree wsX2_isFree) := goodIn_app (goodIn_of _ (by decide +kernel)) ggX5_dress_X2_isFree
set_option maxRecDepth 20000 in
theorem ggX5_dress_X5_roundedUp : GoodIn wsX5_dress wsX5_roundedUp := goodIn_r _ [25] (by decide +kernel) (by decide +kernel)
set_option maxRecDepth 20000 in
theorem gX5_dress_X5_roundedUp : GoodIn wsX5_dress (va_wsS RX5 175 yX5_roundedUp wsX5_roundedUp) := goodIn_app (goodIn_of _ (by decide +kernel)) ggX5_dress_X5_roundedUp
theorem dX5_dress_0 : decode cX5_dress 0 = .ok (.aload_n 0, 1) := by decide +kernel
theorem dX5_dress_1 : decode cX5_dress 1 = .ok (.getfield 10, 3) := by decide +kernel
theorem dX5_dress_4 : decode cX5_dress 4 = .ok (.getfield 102, 3) := by decide +kernel
theorem dX5_dress_7 : decode cX5_dress 7 = .ok (.iload_n 1, 1) := by decide +kernel
theorem dX5_dress_8 : decode cX5_dress 8 = .ok (.invokevirtual 135, 3) := by decide +kernel
theorem dX5_dress_11 : decode cX5_dress 11 = .ok (.ifCond .ne 13, 3) := by decide +kernel
theorem dX5_dress_14 : decode cX5_dress 14 = .ok (.new 140, 3) := by decide +kernel
theorem dX5_dress_17 : decode cX5_dress 17 = .ok (.dup, 1) := by decide +kernel
theorem dX5_dress_18 : decode cX5_dress 18 = .ok (.ldc 160, 2) := by decide +kernel
theorem dX5_dress_20 : decode cX5_dress 20 = .ok (.invokespecial 144, 3) := by decide +kernel
theorem dX5_dress_23 : decode cX5_dress 23 = .ok (.athrow, 1) := by decide +kernel
theorem dX5_dress_24 : decode cX5_dress 24 = .ok (.aload_n 0, 1) := by decide +kernel
theorem dX5_dress_25 : decode cX5_dress 25 = .ok (.getfield 10, 3) := by decide +kernel
theorem dX5_dress_28 : decode cX5_dress 28 = .ok (.getfield 102, 3) := by decide +kernel
theorem dX5_dress_31 : decode cX5_dress 31 = .ok (.iload_n 1, 1) := by decide +kernel
theorem dX5_dress_32 : decode cX5_dress 32 = .ok (.invokevirtual 149, 3) := by decide +kernel
theorem dX5_dress_35 : decode cX5_dress 35 = .ok (.ifCond .ne 13, 3) := by decide +kernel
theorem dX5_dress_38 : decode cX5_dress 38 = .ok (.new 65, 3) := by decide +kernel
theorem dX5_dress_41 : decode cX5_dress 41 = .ok (.dup, 1) := by decide +kernel
theorem dX5_dress_42 : decode cX5_dress 42 = .ok (.ldc 164, 2) := by decide +kernel
theorem dX5_dress_44 : decode cX5_dress 44 = .ok (.invokespecial 69, 3) := by decide +kernel
theorem dX5_dress_47 : decode cX5_dress 47 = .ok (.athrow, 1) := by decide +kernel
theorem dX5_dress_48 : decode cX5_dress 48 = .ok (.aload_n 0, 1) := by decide +kernel
theorem dX5_dress_49 : decode cX5_dress 49 = .ok (.getfield 10, 3) := by decide +kernel
theorem dX5_dress_52 : decode cX5_dress 52 = .ok (.getfield 102, 3) := by decide +kernel
theorem dX5_dress_55 : decode cX5_dress 55 = .ok (.getfield 166, 3) := by decide +kernel
theorem dX5_dress_58 : decode cX5_dress 58 = .ok (.iload_n 1, 1) := by decide +kernel
theorem dX5_dress_59 : decode cX5_dress 59 = .ok (.iconst 3, 1) := by decide +kernel
theorem dX5_dress_60 : decode cX5_dress 60 = .ok (.ldc2_w 169, 3) := by decide +kernel
theorem dX5_dress_63 : decode cX5_dress 63 = .ok (.aload_n 0, 1) := by decide +kernel
theorem dX5_dress_64 : decode cX5_dress 64 = .ok (.getfield 10, 3) := by decide +kernel
theorem dX5_dress_67 : decode cX5_dress 67 = .ok (.getfield 102, 3) := by decide +kernel
theorem dX5_dress_70 : decode cX5_dress 70 = .ok (.getfield 171, 3) := by decide +kernel
theorem dX5_dress_73 : decode cX5_dress 73 = .ok (.iload_n 1, 1) := by decide +kernel
theorem dX5_dress_74 : decode cX5_dress 74 = .ok (.faload, 1) := by decide +kernel
theorem dX5_dress_75 : decode cX5_dress 75 = .ok (.f2d, 1) := by decide +kernel
theorem dX5_dress_76 : decode cX5_dress 76 = .ok (.dmul, 1) := by decide +kernel
theorem dX5_dress_77 : decode cX5_dress 77 = .ok (.invokestatic 175, 3) := by decide +kernel
theorem dX5_dress_80 : decode cX5_dress 80 = .ok (.iadd, 1) := by decide +kernel
theorem dX5_dress_81 : decode cX5_dress 81 = .ok (.iastore, 1) := by decide +kernel
theorem dX5_dress_82 : decode cX5_dress 82 = .ok (.aload_n 0, 1) := by decide +kernel
theorem dX5_dress_83 : decode cX5_dress 83 = .ok (.getfield 10, 3) := by decide +kernel
theorem dX5_dress_86 : decode cX5_dress 86 = .ok (.getfield 102, 3) := by decide +kernel
theorem dX5_dress_89 : decode cX5_dress 89 = .ok (.getfield 166, 3) := by decide +kernel
theorem dX5_dress_92 : decode cX5_dress 92 = .ok (.iload_n 1, 1) := by decide +kernel
theorem dX5_dress_93 : decode cX5_dress 93 = .ok (.iaload, 1) := by decide +kernel
theorem dX5_dress_94 : decode cX5_dress 94 = .ok (.ireturn, 1) := by decide +kernel
set_option maxRecDepth 20000 in
theorem ggX5_give_X0_has : GoodIn wsX5_give wsX0_has := goodIn_r _ [23, 24, 48, 49, 50, 51, 52, 53, 54] (by decide +kernel) (by decide +kernel)
set_option maxRecDepth 20000 in
theorem gX5_give_X0_has : GoodIn wsX5_give (wsV RX5 139 RX0 yX0_has wsX0_has) := goodIn_app (goodIn_of _ (by decide +kernel)) ggX5_give_X0_has
set_option maxRecDepth 20000 in
theorem ggX5_give_X4_today : GoodIn wsX5_give wsX4_today := goodIn_r _ [29, 30, 55, 56, 57] (by decide +kernel) (by decide +kernel)
set_option maxRecDepth 20000 in
theorem gX5_give_X4_today : GoodIn wsX5_give (wsV RX5 128 RX4 yX4_today wsX4_today) := goodIn_app (goodIn_of _ (by decide +kernel)) ggX5_give_X4_today
set_option maxRecDepth 20000 in
theorem ggX5_give_X5_priceOf : GoodIn wsX5_give wsX5_priceOf := goodIn_r _ [34] (by decide +kernel) (by decide +kernel)
set_option maxRecDepth 20000 in
theorem gX5_give_X5_priceOf : GoodIn wsX5_give (va_wsS RX5 198 yX5_priceOf wsX5_priceOf) := goodIn_app (goodIn_of _ (by decide +kernel)) ggX5_give_X5_priceOf
theorem dX5_give_0 : decode cX5_give 0 = .ok (.aload_n 0, 1) := by decide +kernel
theorem dX5_give_1 : decode cX5_give 1 = .ok (.getfield 10, 3) := by decide +kernel
theorem dX5_give_4 : decode cX5_give 4 = .ok (.getfield 119, 3) := by decide +kernel
theorem dX5_give_7 : decode cX5_give 7 = .ok (.iload_n 1, 1) := by decide +kernel
theorem dX5_give_8 : decode cX5_give 8 = .ok (.invokevirtual 139, 3) := by decide +kernel
theorem dX5_give_11 : decode cX5_give 11 = .ok (.ifCond .ne 13, 3) := by decide +kernel
theorem dX5_give_14 : decode cX5_give 14 = .ok (.new 140, 3) := by decide +kernel
theorem dX5_give_17 : decode cX5_give 17 = .ok (.dup, 1) := by decide +kernel
theorem dX5_give_18 : decode cX5_give 18 = .ok (.ldc 179, 2) := by decide +kernel
theorem dX5_give_20 : decode cX5_give 20 = .ok (.invokespecial 144, 3) := by decide +kernel
theorem dX5_give_23 : decode cX5_give 23 = .ok (.athrow, 1) := by decide +kernel
theorem dX5_give_24 : decode cX5_give 24 = .ok (.aload_n 0, 1) := by decide +kernel
theorem dX5_give_25 : decode cX5_give 25 = .ok (.getfield 10, 3) := by decide +kernel
theorem dX5_give_28 : decode cX5_give 28 = .ok (.getfield 119, 3) := by decide +kernel
theorem dX5_give_31 : decode cX5_give 31 = .ok (.getfield 145, 3) := by decide +kernel
theorem dX5_give_34 : decode cX5_give 34 = .ok (.iload_n 1, 1) := by decide +kernel
theorem dX5_give_35 : decode cX5_give 35 = .ok (.iaload, 1) := by decide +kernel
theorem dX5_give_36 : decode cX5_give 36 = .ok (.iconst 2, 1) := by decide +kernel
theorem dX5_give_37 : decode cX5_give 37 = .ok (.if_icmp .eq 13, 3) := by decide +kernel
theorem dX5_give_40 : decode cX5_give 40 = .ok (.new 65, 3) := by decide +kernel
theorem dX5_give_43 : decode cX5_give 43 = .ok (.dup, 1) := by decide +kernel
theorem dX5_give_44 : decode cX5_give 44 = .ok (.ldc 181, 2) := by decide +kernel
theorem dX5_give_46 : decode cX5_give 46 = .ok (.invokespecial 69, 3) := by decide +kernel
theorem dX5_give_49 : decode cX5_give 49 = .ok (.athrow, 1) := by decide +kernel
theorem dX5_give_50 : decode cX5_give 50 = .ok (.aload_n 0, 1) := by decide +kernel
theorem dX5_give_51 : decode cX5_give 51 = .ok (.getfield 10, 3) := by decide +kernel
theorem dX5_give_54 : decode cX5_give 54 = .ok (.getfield 119, 3) := by decide +kernel
theorem dX5_give_57 : decode cX5_give 57 = .ok (.getfield 183, 3) := by decide +kernel
theorem dX5_give_60 : decode cX5_give 60 = .ok (.iload_n 1, 1) := by decide +kernel
theorem dX5_give_61 : decode cX5_give 61 = .ok (.iaload, 1) := by decide +kernel
theorem dX5_give_62 : decode cX5_give 62 = .ok (.istore_n 2, 1) := by decide +kernel
theorem dX5_give_63 : decode cX5_give 63 = .ok (.iconst 0, 1) := by decide +kernel
theorem dX5_give_64 : decode cX5_give 64 = .ok (.aload_n 0, 1) := by decide +kernel
theorem dX5_give_65 : decode cX5_give 65 = .ok (.getfield 10, 3) := by decide +kernel
theorem dX5_give_68 : decode cX5_give 68 = .ok (.getfield 30, 3) := by decide +kernel
theorem dX5_give_71 : decode cX5_give 71 = .ok (.invokevirtual 128, 3) := by decide +kernel
theorem dX5_give_74 : decode cX5_give 74 = .ok (.aload_n 0, 1) := by decide +kernel
theorem dX5_give_75 : decode cX5_give 75 = .ok (.getfield 10, 3) := by decide +kernel
theorem dX5_give_78 : decode cX5_give 78 = .ok (.getfield 119, 3) := by decide +kernel
theorem dX5_give_81 : decode cX5_give 81 = .ok (.getfield 186, 3) := by decide +kernel
theorem dX5_give_84 : decode cX5_give 84 = .ok (.iload_n 1, 1) := by decide +kernel
theorem dX5_give_85 : decode cX5_give 85 = .ok (.iaload, 1) := by decide +kernel
theorem dX5_give_86 : decode cX5_give 86 = .ok (.isub, 1) := by decide +kernel
theorem dX5_give_87 : decode cX5_give 87 = .ok (.invokestatic 189, 3) := by decide +kernel
theorem dX5_give_90 : decode cX5_give 90 = .ok (.istore_n 3, 1) := by decide +kernel
theorem dX5_give_91 : decode cX5_give 91 = .ok (.iload_n 2, 1) := by decide +kernel
theorem dX5_give_92 : decode cX5_give 92 = .ok (.aload_n 0, 1) := by decide +kernel
theorem dX5_give_93 : decode cX5_give 93 = .ok (.getfield 10, 3) := by decide +kernel
theorem dX5_give_96 : decode cX5_give 96 = .ok (.getfield 119, 3) := by decide +kernel
theorem dX5_give_99 : decode cX5_give 99 = .ok (.getfield 195, 3) := by decide +kernel
theorem dX5_give_102 : decode cX5_give 102 = .ok (.iload_n 1, 1) := by decide +kernel
theorem dX5_give_103 : decode cX5_give 103 = .ok (.iaload, 1) := by decide +kernel
theorem dX5_give_104 : decode cX5_give 104 = .ok (.invokestatic 198, 3) := by decide +kernel
theorem dX5_give_107 : decode cX5_give 107 = .ok (.imul, 1) := by decide +kernel
theorem dX5_give_108 : decode cX5_give 108 = .ok (.iconst 4, 1) := by decide +kernel
theorem dX5_give_109 : decode cX5_give 109 = .ok (.idiv, 1) := by decide +kernel
theorem dX5_give_110 : decode cX5_give 110 = .ok (.iload_n 3, 1) := by decide +kernel
theorem dX5_give_111 : decode cX5_give 111 = .ok (.isub, 1) := by decide +kernel
theorem dX5_give_112 : decode cX5_give 112 = .ok (.istore 4, 2) := by decide +kernel
theorem dX5_give_114 : decode cX5_give 114 = .ok (.aload_n 0, 1) := by decide +kernel
theorem dX5_give_115 : decode cX5_give 115 = .ok (.getfield 10, 3) := by decide +kernel
theorem dX5_give_118 : decode cX5_give 118 = .ok (.getfield 119, 3) := by decide +kernel
theorem dX5_give_121 : decode cX5_give 121 = .ok (.getfield 145, 3) := by decide +kernel
theorem dX5_give_124 : decode cX5_give 124 = .ok (.iload_n 1, 1) := by decide +kernel
theorem dX5_give_125 : decode cX5_give 125 = .ok (.iconst 3, 1) := by decide +kernel
theorem dX5_give_126 : decode cX5_give 126 = .ok (.iastore, 1) := by decide +kernel
theorem dX5_give_127 : decode cX5_give 127 = .ok (.aload_n 0, 1) := by decide +kernel
theorem dX5_give_128 : decode cX5_give 128 = .ok (.dup, 1) := by decide +kernel
theorem dX5_give_129 : decode cX5_give 129 = .ok (.getfield 201, 3) := by decide +kernel
theorem dX5_give_132 : decode cX5_give 132 = .ok (.iload_n 2, 1) := by decide +kernel
theorem dX5_give_133 : decode cX5_give 133 = .ok (.i2d, 1) := by decide +kernel
theorem dX5_give_134 : decode cX5_give 134 = .ok (.ldc2_w 204, 3) := by decide +kernel
theorem dX5_give_137 : decode cX5_give 137 = .ok (.ddiv, 1) := by decide +kernel
theorem dX5_give_138 : decode cX5_give 138 = .ok (.dadd, 1) := by decide +kernel
theorem dX5_give_139 : decode cX5_give 139 = .ok (.putfield 201, 3) := by decide +kernel
theorem dX5_give_142 : decode cX5_give 142 = .ok (.aload_n 0, 1) := by decide +kernel
theorem dX5_give_143 : decode cX5_give 143 = .ok (.dup, 1) := by decide +kernel
theorem dX5_give_144 : decode cX5_give 144 = .ok (.getfield 206, 3) := by decide +kernel
theorem dX5_give_147 : decode cX5_give 147 = .ok (.iload 4, 2) := by decide +kernel
theorem dX5_give_149 : decode cX5_give 149 = .ok (.iadd, 1) := by decide +kernel
theorem dX5_give_150 : decode cX5_give 150 = .ok (.putfield 206, 3) := by decide +kernel
theorem dX5_give_153 : decode cX5_give 153 = .ok (.iload 4, 2) := by decide +kernel
theorem dX5_give_155 : decode cX5_give 155 = .ok (.ireturn, 1) := by decide +kernel
set_option maxRecDepth 20000 in
theorem ggX5_pass_X5_isWithin : GoodIn wsX5_pass wsX5_isWithin := goodIn_r _ [12] (by decide +kernel) (by decide +kernel)
set_option maxRecDepth 20000 in
theorem gX5_pass_X5_isWithin : GoodIn wsX5_pass (va_wsS RX5 19 yX5_isWithin wsX5_isWithin) := goodIn_app (goodIn_of _ (by decide +kernel)) ggX5_pass_X5_isWithin
set_option maxRecDepth 20000 in
theorem ggX5_pass_X1_letGoBy : GoodIn wsX5_pass wsX1_letGoBy := goodIn_r _ [17, 18, 19, 20, 16, 21, 22, 23, 24, 25, 26, 27, 28, 29, 30, 31, 32, 33, 34, 35, 36, 37, 38, 39, 40, 41, 42, 43, 44, 45, 46, 47, 48, 49, 50, 51, 52, 53, 54, 55, 56, 57, 58, 59, 60, 61, 62, 63, 64, 65, 66, 67, 68, 69, 70, 71, 72, 73, 74, 75, 76, 77, 78, 79, 80, 81, 82, 83, 84, 85, 86, 87, 88, 89, 90, 91, 92, 93, 94, 95, 96, 97, 98, 99, 100, 101, 102, 103, 104, 105, 106, 107, 108, 109, 110, 111, 112, 113, 114, 115, 116, 117, 118, 119, 120, 121, 122, 123, 124, 125, 126, 127, 128, 129, 130, 131, 132, 133, 134, 135, 136, 137, 138, 139, 140, 141, 142, 143, 144, 11, 145, 146, 147, 148, 149, 150, 151, 152, 153, 154, 155, 156, 157, 158, 159, 160, 161, 162, 163, 164, 165, 176, 177, 178, 179, 180, 181, 182, 183, 184, 185, 186, 187, 188, 189, 190, 191, 192, 193, 194, 195, 196, 197, 198, 199, 200, 201, 202, 203] (by decide +kernel) (by decide +kernel)
set_option maxRecDepth 20000 in
theorem gX5_pass_X1_letGoBy : GoodIn wsX5_pass (wsV RX5 213 RX1 yX1_letGoBy wsX1_letGoBy) := goodIn_app (goodIn_of _ (by decide +kernel)) ggX5_pass_X1_letGoBy
set_option maxRecDepth 20000 in
theorem ggX5_pass_X0_countOf : GoodIn wsX5_pass wsX0_countOf := goodIn_r _ [169, 129, 143, 197, 198, 199, 200, 201, 202, 203] (by decide +kernel) (by decide +kernel)
set_option maxRecDepth 20000 in
theorem gX5_pass_X0_countOf : GoodIn wsX5_pass (wsV RX5 157 RX0 yX0_countOf wsX0_countOf) := goodIn_app (goodIn_of _ (by decide +kernel)) ggX5_pass_X0_countOf
theorem dX5_pass_0 : decode cX5_pass 0 = .ok (.iload_n 1, 1) := by decide +kernel
theorem dX5_pass_1 : decode cX5_pass 1 = .ok (.iconst 1, 1) := by decide +kernel
theorem dX5_pass_2 : decode cX5_pass 2 = .ok (.bipush 100, 2) := by decide +kernel
theorem dX5_pass_4 : decode cX5_pass 4 = .ok (.invokestatic 19, 3) := by decide +kernel
theorem dX5_pass_7 : decode cX5_pass 7 = .ok (.ifCond .ne 13, 3) := by decide +kernel
theorem dX5_pass_10 : decode cX5_pass 10 = .ok (.new 23, 3) := by decide +kernel
theorem dX5_pass_13 : decode cX5_pass 13 = .ok (.dup, 1) := by decide +kernel
theorem dX5_pass_14 : decode cX5_pass 14 = .ok (.ldc 209, 2) := by decide +kernel
theorem dX5_pass_16 : decode cX5_pass 16 = .ok (.invokespecial 27, 3) := by decide +kernel
theorem dX5_pass_19 : decode cX5_pass 19 = .ok (.athrow, 1) := by decide +kernel
theorem dX5_pass_20 : decode cX5_pass 20 = .ok (.aload_n 0, 1) := by decide +kernel
theorem dX5_pass_21 : decode cX5_pass 21 = .ok (.getfield 10, 3) := by decide +kernel
theorem dX5_pass_24 : decode cX5_pass 24 = .ok (.getfield 30, 3) := by decide +kernel
theorem dX5_pass_27 : decode cX5_pass 27 = .ok (.getfield 40, 3) := by decide +kernel
theorem dX5_pass_30 : decode cX5_pass 30 = .ok (.iload_n 1, 1) := by decide +kernel
theorem dX5_pass_31 : decode cX5_pass 31 = .ok (.iadd, 1) := by decide +kernel
theorem dX5_pass_32 : decode cX5_pass 32 = .ok (.sipush 5000, 3) := by decide +kernel
theorem dX5_pass_35 : decode cX5_pass 35 = .ok (.if_icmp .le 13, 3) := by decide +kernel
theorem dX5_pass_38 : decode cX5_pass 38 = .ok (.new 65, 3) := by decide +kernel
theorem dX5_pass_41 : decode cX5_pass 41 = .ok (.dup, 1) := by decide +kernel
theorem dX5_pass_42 : decode cX5_pass 42 = .ok (.ldc 211, 2) := by decide +kernel
theorem dX5_pass_44 : decode cX5_pass 44 = .ok (.invokespecial 69, 3) := by decide +kernel
theorem dX5_pass_47 : decode cX5_pass 47 = .ok (.athrow, 1) := by decide +kernel
theorem dX5_pass_48 : decode cX5_pass 48 = .ok (.aload_n 0, 1) := by decide +kernel
theorem dX5_pass_49 : decode cX5_pass 49 = .ok (.getfield 10, 3) := by decide +kernel
theorem dX5_pass_52 : decode cX5_pass 52 = .ok (.iload_n 1, 1) := by decide +kernel
theorem dX5_pass_53 : decode cX5_pass 53 = .ok (.invokevirtual 213, 3) := by decide +kernel
theorem dX5_pass_56 : decode cX5_pass 56 = .ok (.aload_n 0, 1) := by decide +kernel
theorem dX5_pass_57 : decode cX5_pass 57 = .ok (.getfield 10, 3) := by decide +kernel
theorem dX5_pass_60 : decode cX5_pass 60 = .ok (.getfield 119, 3) := by decide +kernel
theorem dX5_pass_63 : decode cX5_pass 63 = .ok (.iconst 2, 1) := by decide +kernel
theorem dX5_pass_64 : decode cX5_pass 64 = .ok (.invokevirtual 157, 3) := by decide +kernel
theorem dX5_pass_67 : decode cX5_pass 67 = .ok (.ireturn, 1) := by decide +kernel
set_option maxRecDepth 20000 in
theorem ggX5_ofLot_X0_has : GoodIn wsX5_ofLot wsX0_has := goodIn_r _ [11, 12, 47, 48, 49, 50, 51, 52, 53] (by decide +kernel) (by decide +kernel)
set_option maxRecDepth 20000 in
theorem gX5_ofLot_X0_has : GoodIn wsX5_ofLot (wsV RX5 139 RX0 yX0_has wsX0_has) := goodIn_app (goodIn_of _ (by decide +kernel)) ggX5_ofLot_X0_has
set_option maxRecDepth 20000 in
theorem ggX5_ofLot_X5_isWithin : GoodIn wsX5_ofLot wsX5_isWithin := goodIn_r _ [16] (by decide +kernel) (by decide +kernel)
set_option maxRecDepth 20000 in
theorem gX5_ofLot_X5_isWithin : GoodIn wsX5_ofLot (va_wsS RX5 19 yX5_isWithin wsX5_isWithin) := goodIn_app (goodIn_of _ (by decide +kernel)) ggX5_ofLot_X5_isWithin
set_option maxRecDepth 20000 in
theorem ggX5_ofLot_X5_lotAnswer : GoodIn wsX5_ofLot wsX5_lotAnswer := goodIn_r _ [20, 5, 6, 21, 22, 23, 24, 25, 26, 27, 28, 29, 30, 31, 32, 33, 34, 35, 36, 37, 38, 39, 40, 41, 42, 43, 44, 45, 46, 47, 48, 49, 50, 51, 52, 53, 54, 55, 56, 57, 58] (by decide +kernel) (by decide +kernel)
set_option maxRecDepth 20000 in
theorem gX5_ofLot_X5_lotAnswer : GoodIn wsX5_ofLot (wsV RX5 229 RX5 yX5_lotAnswer wsX5_lotAnswer) := goodIn_app (goodIn_of _ (by decide +kernel)) ggX5_ofLot_X5_lotAnswer
theorem dX5_ofLot_0 : decode cX5_ofLot 0 = .ok (.aload_n 0, 1) := by decide +kernel
theorem dX5_ofLot_1 : decode cX5_ofLot 1 = .ok (.getfield 10, 3) := by decide +kernel
theorem dX5_ofLot_4 : decode cX5_ofLot 4 = .ok (.getfield 119, 3) := by decide +kernel
theorem dX5_ofLot_7 : decode cX5_ofLot 7 = .ok (.iload_n 1, 1) := by decide +kernel
theorem dX5_ofLot_8 : decode cX5_ofLot 8 = .ok (.invokevirtual 139, 3) := by decide +kernel
theorem dX5_ofLot_11 : decode cX5_ofLot 11 = .ok (.ifCond .ne 13, 3) := by decide +kernel
theorem dX5_ofLot_14 : decode cX5_ofLot 14 = .ok (.new 140, 3) := by decide +kernel
theorem dX5_ofLot_17 : decode cX5_ofLot 17 = .ok (.dup, 1) := by decide +kernel
theorem dX5_ofLot_18 : decode cX5_ofLot 18 = .ok (.ldc 179, 2) := by decide +kernel
theorem dX5_ofLot_20 : decode cX5_ofLot 20 = .ok (.invokespecial 144, 3) := by decide +kernel
theorem dX5_ofLot_23 : decode cX5_ofLot 23 = .ok (.athrow, 1) := by decide +kernel
theorem dX5_ofLot_24 : decode cX5_ofLot 24 = .ok (.iload_n 2, 1) := by decide +kernel
theorem dX5_ofLot_25 : decode cX5_ofLot 25 = .ok (.iconst 0, 1) := by decide +kernel
theorem dX5_ofLot_26 : decode cX5_ofLot 26 = .ok (.iconst 5, 1) := by decide +kernel
theorem dX5_ofLot_27 : decode cX5_ofLot 27 = .ok (.invokestatic 19, 3) := by decide +kernel
theorem dX5_ofLot_30 : decode cX5_ofLot 30 = .ok (.ifCond .ne 13, 3) := by decide +kernel
theorem dX5_ofLot_33 : decode cX5_ofLot 33 = .ok (.new 23, 3) := by decide +kernel
theorem dX5_ofLot_36 : decode cX5_ofLot 36 = .ok (.dup, 1) := by decide +kernel
theorem dX5_ofLot_37 : decode cX5_ofLot 37 = .ok (.ldc 219, 2) := by decide +kernel
theorem dX5_ofLot_39 : decode cX5_ofLot 39 = .ok (.invokespecial 27, 3) := by decide +kernel
theorem dX5_ofLot_42 : decode cX5_ofLot 42 = .ok (.athrow, 1) := by decide +kernel
theorem dX5_ofLot_43 : decode cX5_ofLot 43 = .ok (.aload_n 0, 1) := by decide +kernel
theorem dX5_ofLot_44 : decode cX5_ofLot 44 = .ok (.iload_n 1, 1) := by decide +kernel
theorem dX5_ofLot_45 : decode cX5_ofLot 45 = .ok (.iload_n 2, 1) := by decide +kernel
theorem dX5_ofLot_46 : decode cX5_ofLot 46 = .ok (.invokevirtual 229, 3) := by decide +kernel
theorem dX5_ofLot_49 : decode cX5_ofLot 49 = .ok (.ireturn, 1) := by decide +kernel
set_option maxRecDepth 20000 in
theorem ggX5_left_X0_has : GoodIn wsX5_left wsX0_has := goodIn_r _ [10, 11, 25, 26, 27, 28, 29, 30, 31] (by decide +kernel) (by decide +kernel)
set_option maxRecDepth 20000 in
theorem gX5_left_X0_has : GoodIn wsX5_left (wsV RX5 139 RX0 yX0_has wsX0_has) := goodIn_app (goodIn_of _ (by decide +kernel)) ggX5_left_X0_has
theorem dX5_left_0 : decode cX5_left 0 = .ok (.aload_n 0, 1) := by decide +kernel
theorem dX5_left_1 : decode cX5_left 1 = .ok (.getfield 10, 3) := by decide +kernel
theorem dX5_left_4 : decode cX5_left 4 = .ok (.getfield 119, 3) := by decide +kernel
theorem dX5_left_7 : decode cX5_left 7 = .ok (.iload_n 1, 1) := by decide +kernel
theorem dX5_left_8 : decode cX5_left 8 = .ok (.invokevirtual 139, 3) := by decide +kernel
theorem dX5_left_11 : decode cX5_left 11 = .ok (.ifCond .ne 13, 3) := by decide +kernel
theorem dX5_left_14 : decode cX5_left 14 = .ok (.new 140, 3) := by decide +kernel
theorem dX5_left_17 : decode cX5_left 17 = .ok (.dup, 1) := by decide +kernel
theorem dX5_left_18 : decode cX5_left 18 = .ok (.ldc 179, 2) := by decide +kernel
theorem dX5_left_20 : decode cX5_left 20 = .ok (.invokespecial 144, 3) := by decide +kernel
theorem dX5_left_23 : decode cX5_left 23 = .ok (.athrow, 1) := by decide +kernel
theorem dX5_left_24 : decode cX5_left 24 = .ok (.aload_n 0, 1) := by decide +kernel
theorem dX5_left_25 : decode cX5_left 25 = .ok (.getfield 10, 3) := by decide +kernel
theorem dX5_left_28 : decode cX5_left 28 = .ok (.getfield 119, 3) := by decide +kernel
theorem dX5_left_31 : decode cX5_left 31 = .ok (.getfield 232, 3) := by decide +kernel
theorem dX5_left_34 : decode cX5_left 34 = .ok (.iload_n 1, 1) := by decide +kernel
theorem dX5_left_35 : decode cX5_left 35 = .ok (.daload, 1) := by decide +kernel
theorem dX5_left_36 : decode cX5_left 36 = .ok (.dreturn, 1) := by decide +kernel
set_option maxRecDepth 20000 in
theorem ggX5_many_X5_isWithin : GoodIn wsX5_many wsX5_isWithin := goodIn_r _ [6] (by decide +kernel) (by decide +kernel)
set_option maxRecDepth 20000 in
theorem gX5_many_X5_isWithin : GoodIn wsX5_many (va_wsS RX5 19 yX5_isWithin wsX5_isWithin) := goodIn_app (goodIn_of _ (by decide +kernel)) ggX5_many_X5_isWithin
set_option maxRecDepth 20000 in
theorem ggX5_many_X5_manyAnswer : GoodIn wsX5_many wsX5_manyAnswer := goodIn_r _ [10, 11, 12, 13, 14, 15, 16, 17, 18, 19, 20, 21, 22, 23, 24, 25, 26, 27, 28, 29, 30, 31, 32, 33, 34, 35, 36, 37, 38, 39, 40, 41, 42, 43, 44, 45, 46, 47, 48, 49, 50, 51, 52, 53, 54, 55, 56, 57, 58, 59, 60, 61, 62, 63, 64, 65, 66, 67, 68, 69, 70, 71, 72, 73, 74, 75, 76, 77, 78, 79, 80, 81, 82, 83, 84, 85, 86, 87, 88, 89, 90, 91, 92, 93, 94, 95, 96, 97, 98, 99, 100, 101, 102, 103, 104, 105, 106] (by decide +kernel) (by decide +kernel)
set_option maxRecDepth 20000 in
theorem gX5_many_X5_manyAnswer : GoodIn wsX5_many (wsV RX5 238 RX5 yX5_manyAnswer wsX5_manyAnswer) := goodIn_app (goodIn_of _ (by decide +kernel)) ggX5_many_X5_manyAnswer
theorem dX5_many_0 : decode cX5_many 0 = .ok (.iload_n 1, 1) := by decide +kernel
theorem dX5_many_1 : decode cX5_many 1 = .ok (.iconst 0, 1) := by decide +kernel
theorem dX5_many_2 : decode cX5_many 2 = .ok (.bipush 16, 2) := by decide +kernel
theorem dX5_many_4 : decode cX5_many 4 = .ok (.invokestatic 19, 3) := by decide +kernel
theorem dX5_many_7 : decode cX5_many 7 = .ok (.ifCond .ne 13, 3) := by decide +kernel
theorem dX5_many_10 : decode cX5_many 10 = .ok (.new 23, 3) := by decide +kernel
theorem dX5_many_13 : decode cX5_many 13 = .ok (.dup, 1) := by decide +kernel
theorem dX5_many_14 : decode cX5_many 14 = .ok (.ldc 236, 2) := by decide +kernel
theorem dX5_many_16 : decode cX5_many 16 = .ok (.invokespecial 27, 3) := by decide +kernel
theorem dX5_many_19 : decode cX5_many 19 = .ok (.athrow, 1) := by decide +kernel
theorem dX5_many_20 : decode cX5_many 20 = .ok (.aload_n 0, 1) := by decide +kernel
theorem dX5_many_21 : decode cX5_many 21 = .ok (.iload_n 1, 1) := by decide +kernel
theorem dX5_many_22 : decode cX5_many 22 = .ok (.invokevirtual 238, 3) := by decide +kernel
theorem dX5_many_25 : decode cX5_many 25 = .ok (.ireturn, 1) := by decide +kernel
set_option maxRecDepth 20000 in
theorem ggX5_wouldDone_X0_has : GoodIn wsX5_wouldDone wsX0_has := goodIn_r _ [9, 10, 203, 204, 205, 206, 207, 208, 209] (by decide +kernel) (by decide +kernel)
set_option maxRecDepth 20000 in
theorem gX5_wouldDone_X0_has : GoodIn wsX5_wouldDone (wsV RX5 139 RX0 yX0_has wsX0_has) := goodIn_app (goodIn_of _ (by decide +kernel)) ggX5_wouldDone_X0_has
set_option maxRecDepth 20000 in
theorem ggX5_wouldDone_X5_ticksToDone : GoodIn wsX5_wouldDone wsX5_ticksToDone := goodIn_r _ [15, 3, 4, 16, 17, 18, 19, 20, 21, 22, 23, 24, 25, 26, 27, 28, 29, 30, 31, 32, 33, 34, 35, 36, 37, 38, 39, 40, 41, 42, 43, 44, 45, 46, 47, 48, 49, 50, 51, 8, 52, 53, 54, 55, 56, 57, 58, 59, 60, 61, 62, 10, 63, 64, 65, 66, 67, 68, 69, 70, 71, 72, 73, 74, 75, 76, 77, 78, 79, 80, 81, 82, 83, 84, 85, 86, 87, 88, 89, 90, 91, 92, 93, 94, 95, 96, 97, 98, 99, 100, 101, 102, 103, 104, 105, 106, 107, 108, 109, 110, 111, 112, 113, 114, 115, 116, 117, 118, 119, 120, 121, 122, 123, 124, 125, 126, 127, 128, 129, 130, 131, 132, 133, 134, 135, 136, 137, 138, 139, 140, 141, 142, 143, 144, 145, 146, 147, 148, 149, 150, 151, 152, 153, 154, 155, 156, 157, 6, 7, 9, 158, 159, 160, 161, 162, 163, 164, 165, 166, 167, 168, 169, 14, 170, 171, 172, 173, 174, 175, 176, 177, 178, 179, 180, 181, 182, 183, 184, 185, 186, 187, 188, 189, 190, 191, 192, 193, 194, 195, 196, 197, 198, 199, 200, 201, 202, 203, 204, 205, 206, 207, 208, 209, 210, 211, 212, 213, 214, 215, 216, 217, 218, 219, 220, 221, 222, 223] (by decide +kernel) (by decide +kernel)
set_option maxRecDepth 20000 in
theorem gX5_wouldDone_X5_ticksToDone : GoodIn wsX5_wouldDone (wsV RX5 257 RX5 yX5_ticksToDone wsX5_ticksToDone) := goodIn_app (goodIn_of _ (by decide +kernel)) ggX5_wouldDone_X5_ticksToDone
theorem dX5_wouldDone_0 : decode cX5_wouldDone 0 = .ok (.aload_n 0, 1) := by decide +kernel
theorem dX5_wouldDone_1 : decode cX5_wouldDone 1 = .ok (.getfield 10, 3) := by decide +kernel
theorem dX5_wouldDone_4 : decode cX5_wouldDone 4 = .ok (.getfield 119, 3) := by decide +kernel
theorem dX5_wouldDone_7 : decode cX5_wouldDone 7 = .ok (.iload_n 1, 1) := by decide +kernel
theorem dX5_wouldDone_8 : decode cX5_wouldDone 8 = .ok (.invokevirtual 139, 3) := by decide +kernel
theorem dX5_wouldDone_11 : decode cX5_wouldDone 11 = .ok (.ifCond .ne 13, 3) := by decide +kernel
theorem dX5_wouldDone_14 : decode cX5_wouldDone 14 = .ok (.new 140, 3) := by decide +kernel
theorem dX5_wouldDone_17 : decode cX5_wouldDone 17 = .ok (.dup, 1) := by decide +kernel
theorem dX5_wouldDone_18 : decode cX5_wouldDone 18 = .ok (.ldc 179, 2) := by decide +kernel
theorem dX5_wouldDone_20 : decode cX5_wouldDone 20 = .ok (.invokespecial 144, 3) := by decide +kernel
theorem dX5_wouldDone_23 : decode cX5_wouldDone 23 = .ok (.athrow, 1) := by decide +kernel
theorem dX5_wouldDone_24 : decode cX5_wouldDone 24 = .ok (.aload_n 0, 1) := by decide +kernel
theorem dX5_wouldDone_25 : decode cX5_wouldDone 25 = .ok (.iload_n 1, 1) := by decide +kernel
theorem dX5_wouldDone_26 : decode cX5_wouldDone 26 = .ok (.invokevirtual 257, 3) := by decide +kernel
theorem dX5_wouldDone_29 : decode cX5_wouldDone 29 = .ok (.ireturn, 1) := by decide +kernel
set_option maxRecDepth 20000 in
theorem ggX5_best_X5_isWithin : GoodIn wsX5_best wsX5_isWithin := goodIn_r _ [6] (by decide +kernel) (by decide +kernel)
set_option maxRecDepth 20000 in
theorem gX5_best_X5_isWithin : GoodIn wsX5_best (va_wsS RX5 19 yX5_isWithin wsX5_isWithin) := goodIn_app (goodIn_of _ (by decide +kernel)) ggX5_best_X5_isWithin
set_option maxRecDepth 20000 in
theorem ggX5_best_X5_bestSluice : GoodIn wsX5_best wsX5_bestSluice := goodIn_r _ [10, 11, 12, 13, 5, 14, 15, 16, 17, 18, 19, 20, 21, 22, 23, 24, 25, 26, 27, 28, 29, 30, 31, 32, 33, 34, 35, 36, 37, 38, 39, 40, 41, 42, 43, 44, 45, 46, 47, 48, 49, 50, 51, 52, 53, 54, 55, 56, 57, 58, 59, 60, 61, 62, 63, 64, 65, 66, 67, 68, 69, 70, 71, 72, 73, 74, 75, 76, 77, 78, 79, 80, 81, 82, 83, 84, 85, 86, 87, 88, 89, 90, 91, 92, 93, 94, 95, 96, 97, 98, 99, 100, 101, 102, 103, 104, 105, 106, 107, 108, 109, 110, 111, 112, 113, 114, 115, 116, 117, 118, 119, 120, 121, 122, 123, 124, 125, 126, 127, 128, 129, 130, 131, 132, 133, 134, 135, 136, 137, 138, 139, 140, 141, 142, 143, 144, 145, 146, 147, 148, 149, 150, 151, 152, 153, 154, 155, 156, 157, 158, 159, 160, 161, 162, 163, 164, 165, 166, 167, 168, 169, 170, 171, 172, 173, 174, 175, 176, 177, 178, 179, 180, 181, 182, 183, 184, 185, 186, 187, 188, 189, 190, 191, 192, 193, 194, 195, 196, 197, 198, 199, 200, 201, 202, 203, 204, 205, 206, 207, 208, 209, 210, 211, 212, 213, 214, 215, 216, 217, 218, 219, 220, 221, 222, 223, 224, 225, 226, 227, 228, 229, 230, 231, 232, 233, 234] (by decide +kernel) (by decide +kernel)
set_option maxRecDepth 20000 in
theorem gX5_best_X5_bestSluice : GoodIn wsX5_best (wsV RX5 262 RX5 yX5_bestSluice wsX5_bestSluice) := goodIn_app (goodIn_of _ (by decide +kernel)) ggX5_best_X5_bestSluice
theorem dX5_best_0 : decode cX5_best 0 = .ok (.iload_n 1, 1) := by decide +kernel
theorem dX5_best_1 : decode cX5_best 1 = .ok (.iconst 1, 1) := by decide +kernel
theorem dX5_best_2 : decode cX5_best 2 = .ok (.bipush 48, 2) := by decide +kernel
theorem dX5_best_4 : decode cX5_best 4 = .ok (.invokestatic 19, 3) := by decide +kernel
theorem dX5_best_7 : decode cX5_best 7 = .ok (.ifCond .ne 14, 3) := by decide +kernel
theorem dX5_best_10 : decode cX5_best 10 = .ok (.new 23, 3) := by decide +kernel
theorem dX5_best_13 : decode cX5_best 13 = .ok (.dup, 1) := by decide +kernel
theorem dX5_best_14 : decode cX5_best 14 = .ok (.ldc_w 260, 3) := by decide +kernel
theorem dX5_best_17 : decode cX5_best 17 = .ok (.invokespecial 27, 3) := by decide +kernel
theorem dX5_best_20 : decode cX5_best 20 = .ok (.athrow, 1) := by decide +kernel
theorem dX5_best_21 : decode cX5_best 21 = .ok (.aload_n 0, 1) := by decide +kernel
theorem dX5_best_22 : decode cX5_best 22 = .ok (.iload_n 1, 1) := by decide +kernel
theorem dX5_best_23 : decode cX5_best 23 = .ok (.invokevirtual 262, 3) := by decide +kernel
theorem dX5_best_26 : decode cX5_best 26 = .ok (.ireturn, 1) := by decide +kernel
set_option maxRecDepth 20000 in
theorem ggX5_digest_X5_manyAnswer : GoodIn wsX5_digest wsX5_manyAnswer := goodIn_r _ [12, 2, 7, 13, 14, 15, 16, 3, 4, 5, 6, 17, 18, 19, 20, 21, 22, 23, 24, 25, 26, 27, 28, 29, 30, 31, 32, 33, 34, 35, 36, 37, 38, 39, 40, 41, 42, 43, 44, 45, 46, 47, 48, 49, 50, 51, 52, 53, 54, 55, 56, 57, 58, 59, 60, 61, 62, 63, 64, 65, 66, 67, 68, 287, 288, 289, 290, 291, 292, 293, 294, 295, 296, 297, 298, 299, 312, 313, 314, 315, 316, 317, 318, 319, 320, 300, 301, 302, 303, 304, 305, 306, 307, 308, 309, 310, 311] (by decide +kernel) (by decide +kernel)
set_option maxRecDepth 20000 in
theorem gX5_digest_X5_manyAnswer : GoodIn wsX5_digest (wsV RX5 238 RX5 yX5_manyAnswer wsX5_manyAnswer) := goodIn_app (goodIn_of _ (by decide +kernel)) ggX5_digest_X5_manyAnswer
set_option maxRecDepth 20000 in
theorem ggX5_digest_X5_joined : GoodIn wsX5_digest wsX5_joined := goodIn_r _ [71, 72] (by decide +kernel) (by decide +kernel)
set_option maxRecDepth 20000 in
theorem gX5_digest_X5_joined : GoodIn wsX5_digest (va_wsS RX5 267 yX5_joined wsX5_joined) := goodIn_app (goodIn_of _ (by decide +kernel)) ggX5_digest_X5_joined
set_option maxRecDepth 20000 in
theorem ggX5_digest_X5_pondAnswer : GoodIn wsX5_digest wsX5_pondAnswer := goodIn_r _ [76, 2, 14, 77, 78, 79, 80, 7, 13, 81, 82, 83, 84, 85, 86, 87, 88, 89, 90, 24, 91, 92, 93, 94, 28, 29, 30, 31, 95, 33, 34, 35, 36, 37, 38, 39, 40, 41, 42, 287, 288, 289, 290, 291, 292, 293, 294, 295, 296, 297, 298, 299, 315, 316, 317, 318, 319, 320, 312, 313, 314] (by decide +kernel) (by decide +kernel)
set_option maxRecDepth 20000 in
theorem gX5_digest_X5_pondAnswer : GoodIn wsX5_digest (wsV RX5 221 RX5 yX5_pondAnswer wsX5_pondAnswer) := goodIn_app (goodIn_of _ (by decide +kernel)) ggX5_digest_X5_pondAnswer
set_option maxRecDepth 20000 in
theorem ggX5_digest_X5_cutOf1024 : GoodIn wsX5_digest wsX5_cutOf1024 := goodIn_r _ [98, 99] (by decide +kernel) (by decide +kernel)
set_option maxRecDepth 20000 in
theorem gX5_digest_X5_cutOf1024 : GoodIn wsX5_digest (va_wsS RX5 271 yX5_cutOf1024 wsX5_cutOf1024) := goodIn_app (goodIn_of _ (by decide +kernel)) ggX5_digest_X5_cutOf1024
set_option maxRecDepth 20000 in
theorem ggX5_digest_X5_joinedPair : GoodIn wsX5_digest wsX5_joinedPair := goodIn_r _ [103, 2, 3, 104, 105, 106, 107, 11, 108, 109, 110, 111, 69, 70, 71, 72, 96, 97, 98, 99, 287, 288, 289, 290, 291, 292, 293, 294, 295, 296, 297, 298, 299, 300, 301, 302, 303, 304] (by decide +kernel) (by decide +kernel)
set_option maxRecDepth 20000 in
theorem gX5_digest_X5_joinedPair : GoodIn wsX5_digest (wsV RX5 275 RX5 yX5_joinedPair wsX5_joinedPair) := goodIn_app (goodIn_of _ (by decide +kernel)) ggX5_digest_X5_joinedPair
set_option maxRecDepth 20000 in
theorem ggX5_digest_X5_joinedLot : GoodIn wsX5_digest wsX5_joinedLot := goodIn_r _ [115, 2, 5, 116, 117, 118, 119, 11, 120, 121, 122, 123, 124, 125, 3, 126, 127, 128, 53, 129, 55, 130, 69, 70, 71, 72, 96, 97, 98, 99, 131, 132, 133, 134, 135, 136, 137, 138, 60, 139, 62, 140, 141, 142, 63, 64, 143, 144, 145, 146, 24, 147, 26, 31, 148, 149, 150, 151, 84, 152, 153, 87, 154, 155, 156, 157, 158, 159, 160, 46, 161, 162, 163, 164, 165, 166, 167, 168, 169, 49, 170, 48, 171, 172, 173, 174, 175, 176, 177, 56, 178, 179, 180, 181, 182, 183, 184, 185, 186, 187, 188, 189, 190, 191, 192, 193, 89, 90, 91, 92, 93, 94, 28, 29, 30, 95, 33, 34, 35, 36, 37, 38, 39, 40, 41, 42, 194, 195, 196, 197, 198, 199, 200, 201, 202, 203, 204, 205, 206, 207, 208, 209, 82, 83, 85, 86, 210, 211, 212, 213, 214, 215, 216, 217, 218, 219, 220, 221, 58, 59, 61, 65, 66, 67, 68, 222, 223, 224, 225, 226, 227, 228, 229, 230, 231, 232, 233, 234, 235, 236, 237, 238, 239, 240, 241, 242, 243, 244, 245, 246, 247, 248, 249, 250, 251, 252, 253, 254, 255, 256, 257, 258, 259, 260, 261, 262, 263, 264, 265, 287, 288, 289, 290, 291, 292, 293, 294, 295, 296, 297, 298, 299, 305, 306, 307, 308, 309, 310, 311, 300, 301, 302, 303, 304, 312, 313, 314, 315, 316, 317, 318, 319, 320] (by decide +kernel) (by decide +kernel)
set_option maxRecDepth 20000 in
theorem gX5_digest_X5_joinedLot : GoodIn wsX5_digest (wsV RX5 279 RX5 yX5_joinedLot wsX5_joinedLot) := goodIn_app (goodIn_of _ (by decide +kernel)) ggX5_digest_X5_joinedLot
set_option maxRecDepth 20000 in
theorem ggX5_digest_X0_weightOf : GoodIn wsX5_digest wsX0_weightOf := goodIn_r _ [269, 48, 162, 49, 168, 305, 306, 307, 308, 309, 310, 311] (by decide +kernel) (by decide +kernel)
set_option maxRecDepth 20000 in
theorem gX5_digest_X0_weightOf : GoodIn wsX5_digest (wsV RX5 243 RX0 yX0_weightOf wsX0_weightOf) := goodIn_app (goodIn_of _ (by decide +kernel)) ggX5_digest_X0_weightOf
set_option maxRecDepth 20000 in
theorem ggX5_digest_X4_ticksToHigh : GoodIn wsX5_digest wsX4_ticksToHigh := goodIn_r _ [273, 26, 189, 274, 194, 195, 196, 24, 197, 92, 312, 313, 314] (by decide +kernel) (by decide +kernel)
set_option maxRecDepth 20000 in
theorem gX5_digest_X4_ticksToHigh : GoodIn wsX5_digest (wsV RX5 247 RX4 yX4_ticksToHigh wsX4_ticksToHigh) := goodIn_app (goodIn_of _ (by decide +kernel)) ggX5_digest_X4_ticksToHigh
set_option maxRecDepth 20000 in
theorem ggX5_digest_X5_bestSluice : GoodIn wsX5_digest wsX5_bestSluice := goodIn_r _ [278, 279, 280, 281, 11, 282, 135, 2, 14, 16, 5, 136, 137, 138, 60, 139, 62, 140, 141, 142, 63, 64, 143, 144, 145, 146, 24, 147, 26, 31, 148, 149, 150, 151, 84, 152, 153, 87, 154, 155, 156, 157, 158, 159, 160, 46, 161, 162, 163, 164, 165, 166, 167, 168, 169, 49, 170, 48, 171, 172, 173, 53, 174, 175, 176, 130, 177, 56, 55, 178, 179, 180, 181, 182, 183, 184, 185, 186, 187, 188, 189, 190, 191, 192, 193, 89, 90, 91, 92, 93, 94, 28, 29, 30, 95, 33, 34, 35, 36, 37, 38, 39, 40, 41, 42, 194, 195, 196, 197, 198, 199, 200, 201, 202, 203, 204, 205, 206, 207, 208, 209, 82, 83, 85, 86, 210, 211, 212, 213, 214, 215, 216, 217, 218, 219, 220, 221, 58, 59, 61, 65, 66, 67, 68, 222, 223, 224, 225, 226, 227, 228, 229, 230, 231, 232, 233, 234, 235, 236, 237, 238, 239, 240, 241, 242, 243, 244, 245, 246, 247, 248, 249, 250, 251, 252, 253, 254, 255, 256, 257, 258, 259, 260, 261, 262, 263, 264, 265, 283, 284, 285, 286, 287, 288, 289, 290, 291, 292, 293, 294, 295, 296, 297, 298, 299, 315, 316, 317, 318, 319, 320, 312, 313, 314, 305, 306, 307, 308, 309, 310, 311, 300, 301, 302, 303, 304] (by decide +kernel) (by decide +kernel)
set_option maxRecDepth 20000 in
theorem gX5_digest_X5_bestSluice : GoodIn wsX5_digest (wsV RX5 262 RX5 yX5_bestSluice wsX5_bestSluice) := goodIn_app (goodIn_of _ (by decide +kernel)) ggX5_digest_X5_bestSluice
theorem dX5_digest_0 : decode cX5_digest 0 = .ok (.ldc2_w 265, 3) := by decide +kernel
theorem dX5_digest_3 : decode cX5_digest 3 = .ok (.lstore_n 1, 1) := by decide +kernel
theorem dX5_digest_4 : decode cX5_digest 4 = .ok (.iconst 0, 1) := by decide +kernel
theorem dX5_digest_5 : decode cX5_digest 5 = .ok (.istore_n 3, 1) := by decide +kernel
theorem dX5_digest_6 : decode cX5_digest 6 = .ok (.iload_n 3, 1) := by decide +kernel
theorem dX5_digest_7 : decode cX5_digest 7 = .ok (.bipush 16, 2) := by decide +kernel
theorem dX5_digest_9 : decode cX5_digest 9 = .ok (.if_icmp .gt 20, 3) := by decide +kernel
theorem dX5_digest_12 : decode cX5_digest 12 = .ok (.lload_n 1, 1) := by decide +kernel
theorem dX5_digest_13 : decode cX5_digest 13 = .ok (.aload_n 0, 1) := by decide +kernel
theorem dX5_digest_14 : decode cX5_digest 14 = .ok (.iload_n 3, 1) := by decide +kernel
theorem dX5_digest_15 : decode cX5_digest 15 = .ok (.invokevirtual 238, 3) := by decide +kernel
theorem dX5_digest_18 : decode cX5_digest 18 = .ok (.i2l, 1) := by decide +kernel
theorem dX5_digest_19 : decode cX5_digest 19 = .ok (.invokestatic 267, 3) := by decide +kernel
theorem dX5_digest_22 : decode cX5_digest 22 = .ok (.lstore_n 1, 1) := by decide +kernel
theorem dX5_digest_23 : decode cX5_digest 23 = .ok (.iinc 3 1, 3) := by decide +kernel
theorem dX5_digest_26 : decode cX5_digest 26 = .ok (.goto (-20), 3) := by decide +kernel
theorem dX5_digest_29 : decode cX5_digest 29 = .ok (.lload_n 1, 1) := by decide +kernel
theorem dX5_digest_30 : decode cX5_digest 30 = .ok (.aload_n 0, 1) := by decide +kernel
theorem dX5_digest_31 : decode cX5_digest 31 = .ok (.iconst 0, 1) := by decide +kernel
theorem dX5_digest_32 : decode cX5_digest 32 = .ok (.invokevirtual 221, 3) := by decide +kernel
theorem dX5_digest_35 : decode cX5_digest 35 = .ok (.invokestatic 271, 3) := by decide +kernel
theorem dX5_digest_38 : decode cX5_digest 38 = .ok (.invokestatic 267, 3) := by decide +kernel
theorem dX5_digest_41 : decode cX5_digest 41 = .ok (.lstore_n 1, 1) := by decide +kernel
theorem dX5_digest_42 : decode cX5_digest 42 = .ok (.lload_n 1, 1) := by decide +kernel
theorem dX5_digest_43 : decode cX5_digest 43 = .ok (.aload_n 0, 1) := by decide +kernel
theorem dX5_digest_44 : decode cX5_digest 44 = .ok (.iconst 1, 1) := by decide +kernel
theorem dX5_digest_45 : decode cX5_digest 45 = .ok (.invokevirtual 221, 3) := by decide +kernel
theorem dX5_digest_48 : decode cX5_digest 48 = .ok (.invokestatic 271, 3) := by decide +kernel
theorem dX5_digest_51 : decode cX5_digest 51 = .ok (.invokestatic 267, 3) := by decide +kernel
theorem dX5_digest_54 : decode cX5_digest 54 = .ok (.lstore_n 1, 1) := by decide +kernel
theorem dX5_digest_55 : decode cX5_digest 55 = .ok (.lload_n 1, 1) := by decide +kernel
theorem dX5_digest_56 : decode cX5_digest 56 = .ok (.aload_n 0, 1) := by decide +kernel
theorem dX5_digest_57 : decode cX5_digest 57 = .ok (.iconst 4, 1) := by decide +kernel
theorem dX5_digest_58 : decode cX5_digest 58 = .ok (.invokevirtual 221, 3) := by decide +kernel
theorem dX5_digest_61 : decode cX5_digest 61 = .ok (.invokestatic 271, 3) := by decide +kernel
theorem dX5_digest_64 : decode cX5_digest 64 = .ok (.invokestatic 267, 3) := by decide +kernel
theorem dX5_digest_67 : decode cX5_digest 67 = .ok (.lstore_n 1, 1) := by decide +kernel
theorem dX5_digest_68 : decode cX5_digest 68 = .ok (.iconst 0, 1) := by decide +kernel
theorem dX5_digest_69 : decode cX5_digest 69 = .ok (.istore_n 3, 1) := by decide +kernel
theorem dX5_digest_70 : decode cX5_digest 70 = .ok (.iload_n 3, 1) := by decide +kernel
theorem dX5_digest_71 : decode cX5_digest 71 = .ok (.aload_n 0, 1) := by decide +kernel
theorem dX5_digest_72 : decode cX5_digest 72 = .ok (.getfield 10, 3) := by decide +kernel
theorem dX5_digest_75 : decode cX5_digest 75 = .ok (.getfield 102, 3) := by decide +kernel
theorem dX5_digest_78 : decode cX5_digest 78 = .ok (.getfield 106, 3) := by decide +kernel
theorem dX5_digest_81 : decode cX5_digest 81 = .ok (.if_icmp .ge 16, 3) := by decide +kernel
theorem dX5_digest_84 : decode cX5_digest 84 = .ok (.aload_n 0, 1) := by decide +kernel
theorem dX5_digest_85 : decode cX5_digest 85 = .ok (.lload_n 1, 1) := by decide +kernel
theorem dX5_digest_86 : decode cX5_digest 86 = .ok (.iload_n 3, 1) := by decide +kernel
theorem dX5_digest_87 : decode cX5_digest 87 = .ok (.invokevirtual 275, 3) := by decide +kernel
theorem dX5_digest_90 : decode cX5_digest 90 = .ok (.lstore_n 1, 1) := by decide +kernel
theorem dX5_digest_91 : decode cX5_digest 91 = .ok (.iinc 3 1, 3) := by decide +kernel
theorem dX5_digest_94 : decode cX5_digest 94 = .ok (.goto (-24), 3) := by decide +kernel
theorem dX5_digest_97 : decode cX5_digest 97 = .ok (.iconst 0, 1) := by decide +kernel
theorem dX5_digest_98 : decode cX5_digest 98 = .ok (.istore_n 3, 1) := by decide +kernel
theorem dX5_digest_99 : decode cX5_digest 99 = .ok (.iload_n 3, 1) := by decide +kernel
theorem dX5_digest_100 : decode cX5_digest 100 = .ok (.aload_n 0, 1) := by decide +kernel
theorem dX5_digest_101 : decode cX5_digest 101 = .ok (.getfield 10, 3) := by decide +kernel
theorem dX5_digest_104 : decode cX5_digest 104 = .ok (.getfield 119, 3) := by decide +kernel
theorem dX5_digest_107 : decode cX5_digest 107 = .ok (.getfield 123, 3) := by decide +kernel
theorem dX5_digest_110 : decode cX5_digest 110 = .ok (.if_icmp .ge 16, 3) := by decide +kernel
theorem dX5_digest_113 : decode cX5_digest 113 = .ok (.aload_n 0, 1) := by decide +kernel
theorem dX5_digest_114 : decode cX5_digest 114 = .ok (.lload_n 1, 1) := by decide +kernel
theorem dX5_digest_115 : decode cX5_digest 115 = .ok (.iload_n 3, 1) := by decide +kernel
theorem dX5_digest_116 : decode cX5_digest 116 = .ok (.invokevirtual 279, 3) := by decide +kernel
theorem dX5_digest_119 : decode cX5_digest 119 = .ok (.lstore_n 1, 1) := by decide +kernel
theorem dX5_digest_120 : decode cX5_digest 120 = .ok (.iinc 3 1, 3) := by decide +kernel
theorem dX5_digest_123 : decode cX5_digest 123 = .ok (.goto (-24), 3) := by decide +kernel
theorem dX5_digest_126 : decode cX5_digest 126 = .ok (.iconst 0, 1) := by decide +kernel
theorem dX5_digest_127 : decode cX5_digest 127 = .ok (.istore_n 3, 1) := by decide +kernel
theorem dX5_digest_128 : decode cX5_digest 128 = .ok (.iload_n 3, 1) := by decide +kernel
theorem dX5_digest_129 : decode cX5_digest 129 = .ok (.iconst 4, 1) := by decide +kernel
theorem dX5_digest_130 : decode cX5_digest 130 = .ok (.if_icmp .ge 27, 3) := by decide +kernel
theorem dX5_digest_133 : decode cX5_digest 133 = .ok (.lload_n 1, 1) := by decide +kernel
theorem dX5_digest_134 : decode cX5_digest 134 = .ok (.aload_n 0, 1) := by decide +kernel
theorem dX5_digest_135 : decode cX5_digest 135 = .ok (.getfield 10, 3) := by decide +kernel
theorem dX5_digest_138 : decode cX5_digest 138 = .ok (.getfield 119, 3) := by decide +kernel
theorem dX5_digest_141 : decode cX5_digest 141 = .ok (.iload_n 3, 1) := by decide +kernel
theorem dX5_digest_142 : decode cX5_digest 142 = .ok (.iconst 0, 1) := by decide +kernel
theorem dX5_digest_143 : decode cX5_digest 143 = .ok (.invokevirtual 243, 3) := by decide +kernel
theorem dX5_digest_146 : decode cX5_digest 146 = .ok (.i2l, 1) := by decide +kernel
theorem dX5_digest_147 : decode cX5_digest 147 = .ok (.invokestatic 267, 3) := by decide +kernel
theorem dX5_digest_150 : decode cX5_digest 150 = .ok (.lstore_n 1, 1) := by decide +kernel
theorem dX5_digest_151 : decode cX5_digest 151 = .ok (.iinc 3 1, 3) := by decide +kernel
theorem dX5_digest_154 : decode cX5_digest 154 = .ok (.goto (-26), 3) := by decide +kernel
theorem dX5_digest_157 : decode cX5_digest 157 = .ok (.lload_n 1, 1) := by decide +kernel
theorem dX5_digest_158 : decode cX5_digest 158 = .ok (.aload_n 0, 1) := by decide +kernel
theorem dX5_digest_159 : decode cX5_digest 159 = .ok (.getfield 10, 3) := by decide +kernel
theorem dX5_digest_162 : decode cX5_digest 162 = .ok (.getfield 30, 3) := by decide +kernel
theorem dX5_digest_165 : decode cX5_digest 165 = .ok (.invokevirtual 247, 3) := by decide +kernel
theorem dX5_digest_168 : decode cX5_digest 168 = .ok (.i2l, 1) := by decide +kernel
theorem dX5_digest_169 : decode cX5_digest 169 = .ok (.invokestatic 267, 3) := by decide +kernel
theorem dX5_digest_172 : decode cX5_digest 172 = .ok (.lstore_n 1, 1) := by decide +kernel
theorem dX5_digest_173 : decode cX5_digest 173 = .ok (.lload_n 1, 1) := by decide +kernel
theorem dX5_digest_174 : decode cX5_digest 174 = .ok (.aload_n 0, 1) := by decide +kernel
theorem dX5_digest_175 : decode cX5_digest 175 = .ok (.bipush 24, 2) := by decide +kernel
theorem dX5_digest_177 : decode cX5_digest 177 = .ok (.invokevirtual 262, 3) := by decide +kernel
theorem dX5_digest_180 : decode cX5_digest 180 = .ok (.i2l, 1) := by decide +kernel
theorem dX5_digest_181 : decode cX5_digest 181 = .ok (.invokestatic 267, 3) := by decide +kernel
theorem dX5_digest_184 : decode cX5_digest 184 = .ok (.lreturn, 1) := by decide +kernel
set_option maxRecDepth 20000 in
theorem ggX5_pondAnswer_X3_area : GoodIn wsX5_pondAnswer wsX3_area := goodIn_r _ [13, 14, 15, 52, 53, 54, 55, 56, 57] (by decide +kernel) (by decide +kernel)
set_option maxRecDepth 20000 in
theorem gX5_pondAnswer_X3_area : GoodIn wsX5_pondAnswer (wsV RX5 286 RX3 yX3_area wsX3_area) := goodIn_app (goodIn_of _ (by decide +kernel)) ggX5_pondAnswer_X3_area
set_option maxRecDepth 20000 in
theorem ggX5_pondAnswer_X4_rangeOn : GoodIn wsX5_pondAnswer wsX4_rangeOn := goodIn_r _ [20, 21, 22, 23, 24, 25, 19, 26, 27, 28, 29, 30, 31, 32, 33, 34, 35, 36, 37, 38, 58, 59, 60] (by decide +kernel) (by decide +kernel)
set_option maxRecDepth 20000 in
theorem gX5_pondAnswer_X4_rangeOn : GoodIn wsX5_pondAnswer (wsV RX5 293 RX4 yX4_rangeOn wsX4_rangeOn) := goodIn_app (goodIn_of _ (by decide +kernel)) ggX5_pondAnswer_X4_rangeOn
theorem dX5_pondAnswer_0 : decode cX5_pondAnswer 0 = .ok (.iload_n 1, 1) := by decide +kernel
theorem dX5_pondAnswer_1 : decode cX5_pondAnswer 1 = .ok (.tableswitch 85 0 4 #[35, 46, 58, 69, 80], 35) := by decide +kernel
theorem dX5_pondAnswer_36 : decode cX5_pondAnswer 36 = .ok (.aload_n 0, 1) := by decide +kernel
theorem dX5_pondAnswer_37 : decode cX5_pondAnswer 37 = .ok (.getfield 10, 3) := by decide +kernel
theorem dX5_pondAnswer_40 : decode cX5_pondAnswer 40 = .ok (.getfield 70, 3) := by decide +kernel
theorem dX5_pondAnswer_43 : decode cX5_pondAnswer 43 = .ok (.getfield 254, 3) := by decide +kernel
theorem dX5_pondAnswer_46 : decode cX5_pondAnswer 46 = .ok (.dreturn, 1) := by decide +kernel
theorem dX5_pondAnswer_47 : decode cX5_pondAnswer 47 = .ok (.aload_n 0, 1) := by decide +kernel
theorem dX5_pondAnswer_48 : decode cX5_pondAnswer 48 = .ok (.getfield 10, 3) := by decide +kernel
theorem dX5_pondAnswer_51 : decode cX5_pondAnswer 51 = .ok (.getfield 70, 3) := by decide +kernel
theorem dX5_pondAnswer_54 : decode cX5_pondAnswer 54 = .ok (.getfield 282, 3) := by decide +kernel
theorem dX5_pondAnswer_57 : decode cX5_pondAnswer 57 = .ok (.f2d, 1) := by decide +kernel
theorem dX5_pondAnswer_58 : decode cX5_pondAnswer 58 = .ok (.dreturn, 1) := by decide +kernel
theorem dX5_pondAnswer_59 : decode cX5_pondAnswer 59 = .ok (.aload_n 0, 1) := by decide +kernel
theorem dX5_pondAnswer_60 : decode cX5_pondAnswer 60 = .ok (.getfield 10, 3) := by decide +kernel
theorem dX5_pondAnswer_63 : decode cX5_pondAnswer 63 = .ok (.getfield 70, 3) := by decide +kernel
theorem dX5_pondAnswer_66 : decode cX5_pondAnswer 66 = .ok (.invokevirtual 286, 3) := by decide +kernel
theorem dX5_pondAnswer_69 : decode cX5_pondAnswer 69 = .ok (.dreturn, 1) := by decide +kernel
theorem dX5_pondAnswer_70 : decode cX5_pondAnswer 70 = .ok (.aload_n 0, 1) := by decide +kernel
theorem dX5_pondAnswer_71 : decode cX5_pondAnswer 71 = .ok (.getfield 10, 3) := by decide +kernel
theorem dX5_pondAnswer_74 : decode cX5_pondAnswer 74 = .ok (.getfield 70, 3) := by decide +kernel
theorem dX5_pondAnswer_77 : decode cX5_pondAnswer 77 = .ok (.getfield 290, 3) := by decide +kernel
theorem dX5_pondAnswer_80 : decode cX5_pondAnswer 80 = .ok (.dreturn, 1) := by decide +kernel
theorem dX5_pondAnswer_81 : decode cX5_pondAnswer 81 = .ok (.aload_n 0, 1) := by decide +kernel
theorem dX5_pondAnswer_82 : decode cX5_pondAnswer 82 = .ok (.getfield 201, 3) := by decide +kernel
theorem dX5_pondAnswer_85 : decode cX5_pondAnswer 85 = .ok (.dreturn, 1) := by decide +kernel
theorem dX5_pondAnswer_86 : decode cX5_pondAnswer 86 = .ok (.aload_n 0, 1) := by decide +kernel
theorem dX5_pondAnswer_87 : decode cX5_pondAnswer 87 = .ok (.getfield 10, 3) := by decide +kernel
theorem dX5_pondAnswer_90 : decode cX5_pondAnswer 90 = .ok (.getfield 30, 3) := by decide +kernel
theorem dX5_pondAnswer_93 : decode cX5_pondAnswer 93 = .ok (.aload_n 0, 1) := by decide +kernel
theorem dX5_pondAnswer_94 : decode cX5_pondAnswer 94 = .ok (.getfield 10, 3) := by decide +kernel
theorem dX5_pondAnswer_97 : decode cX5_pondAnswer 97 = .ok (.getfield 30, 3) := by decide +kernel
theorem dX5_pondAnswer_100 : decode cX5_pondAnswer 100 = .ok (.getfield 40, 3) := by decide +kernel
theorem dX5_pondAnswer_103 : decode cX5_pondAnswer 103 = .ok (.invokevirtual 293, 3) := by decide +kernel
theorem dX5_pondAnswer_106 : decode cX5_pondAnswer 106 = .ok (.dreturn, 1) := by decide +kernel
theorem dX5_pairAnswer_0 : decode cX5_pairAnswer 0 = .ok (.iload_n 2, 1) := by decide +kernel
theorem dX5_pairAnswer_1 : decode cX5_pairAnswer 1 = .ok (.lookupswitch 53 #[(0, 27), (1, 40)], 27) := by decide +kernel
theorem dX5_pairAnswer_28 : decode cX5_pairAnswer 28 = .ok (.aload_n 0, 1) := by decide +kernel
theorem dX5_pairAnswer_29 : decode cX5_pairAnswer 29 = .ok (.getfield 10, 3) := by decide +kernel
theorem dX5_pairAnswer_32 : decode cX5_pairAnswer 32 = .ok (.getfield 102, 3) := by decide +kernel
theorem dX5_pairAnswer_35 : decode cX5_pairAnswer 35 = .ok (.getfield 154, 3) := by decide +kernel
theorem dX5_pairAnswer_38 : decode cX5_pairAnswer 38 = .ok (.iload_n 1, 1) := by decide +kernel
theorem dX5_pairAnswer_39 : decode cX5_pairAnswer 39 = .ok (.iaload, 1) := by decide +kernel
theorem dX5_pairAnswer_40 : decode cX5_pairAnswer 40 = .ok (.ireturn, 1) := by decide +kernel
theorem dX5_pairAnswer_41 : decode cX5_pairAnswer 41 = .ok (.aload_n 0, 1) := by decide +kernel
theorem dX5_pairAnswer_42 : decode cX5_pairAnswer 42 = .ok (.getfield 10, 3) := by decide +kernel
theorem dX5_pairAnswer_45 : decode cX5_pairAnswer 45 = .ok (.getfield 102, 3) := by decide +kernel
theorem dX5_pairAnswer_48 : decode cX5_pairAnswer 48 = .ok (.getfield 166, 3) := by decide +kernel
theorem dX5_pairAnswer_51 : decode cX5_pairAnswer 51 = .ok (.iload_n 1, 1) := by decide +kernel
theorem dX5_pairAnswer_52 : decode cX5_pairAnswer 52 = .ok (.iaload, 1) := by decide +kernel
theorem dX5_pairAnswer_53 : decode cX5_pairAnswer 53 = .ok (.ireturn, 1) := by decide +kernel
theorem dX5_pairAnswer_54 : decode cX5_pairAnswer 54 = .ok (.aload_n 0, 1) := by decide +kernel
theorem dX5_pairAnswer_55 : decode cX5_pairAnswer 55 = .ok (.getfield 10, 3) := by decide +kernel
theorem dX5_pairAnswer_58 : decode cX5_pairAnswer 58 = .ok (.getfield 102, 3) := by decide +kernel
theorem dX5_pairAnswer_61 : decode cX5_pairAnswer 61 = .ok (.getfield 296, 3) := by decide +kernel
theorem dX5_pairAnswer_64 : decode cX5_pairAnswer 64 = .ok (.iload_n 1, 1) := by decide +kernel
theorem dX5_pairAnswer_65 : decode cX5_pairAnswer 65 = .ok (.iaload, 1) := by decide +kernel
theorem dX5_pairAnswer_66 : decode cX5_pairAnswer 66 = .ok (.ireturn, 1) := by decide +kernel
set_option maxRecDepth 20000 in
theorem ggX5_lotAnswer_X2_withLot : GoodIn wsX5_lotAnswer wsX2_withLot := goodIn_r _ [13, 14, 15, 36, 37, 38, 39, 40] (by decide +kernel) (by decide +kernel)
set_option maxRecDepth 20000 in
theorem gX5_lotAnswer_X2_withLot : GoodIn wsX5_lotAnswer (wsV RX5 302 RX2 yX2_withLot wsX2_withLot) := goodIn_app (goodIn_of _ (by decide +kernel)) ggX5_lotAnswer_X2_withLot
theorem dX5_lotAnswer_0 : decode cX5_lotAnswer 0 = .ok (.iload_n 2, 1) := by decide +kernel
theorem dX5_lotAnswer_1 : decode cX5_lotAnswer 1 = .ok (.tableswitch 100 0 4 #[35, 48, 61, 74, 87], 35) := by decide +kernel
theorem dX5_lotAnswer_36 : decode cX5_lotAnswer 36 = .ok (.aload_n 0, 1) := by decide +kernel
theorem dX5_lotAnswer_37 : decode cX5_lotAnswer 37 = .ok (.getfield 10, 3) := by decide +kernel
theorem dX5_lotAnswer_40 : decode cX5_lotAnswer 40 = .ok (.getfield 119, 3) := by decide +kernel
theorem dX5_lotAnswer_43 : decode cX5_lotAnswer 43 = .ok (.getfield 299, 3) := by decide +kernel
theorem dX5_lotAnswer_46 : decode cX5_lotAnswer 46 = .ok (.iload_n 1, 1) := by decide +kernel
theorem dX5_lotAnswer_47 : decode cX5_lotAnswer 47 = .ok (.iaload, 1) := by decide +kernel
theorem dX5_lotAnswer_48 : decode cX5_lotAnswer 48 = .ok (.ireturn, 1) := by decide +kernel
theorem dX5_lotAnswer_49 : decode cX5_lotAnswer 49 = .ok (.aload_n 0, 1) := by decide +kernel
theorem dX5_lotAnswer_50 : decode cX5_lotAnswer 50 = .ok (.getfield 10, 3) := by decide +kernel
theorem dX5_lotAnswer_53 : decode cX5_lotAnswer 53 = .ok (.getfield 119, 3) := by decide +kernel
theorem dX5_lotAnswer_56 : decode cX5_lotAnswer 56 = .ok (.getfield 195, 3) := by decide +kernel
theorem dX5_lotAnswer_59 : decode cX5_lotAnswer 59 = .ok (.iload_n 1, 1) := by decide +kernel
theorem dX5_lotAnswer_60 : decode cX5_lotAnswer 60 = .ok (.iaload, 1) := by decide +kernel
theorem dX5_lotAnswer_61 : decode cX5_lotAnswer 61 = .ok (.ireturn, 1) := by decide +kernel
theorem dX5_lotAnswer_62 : decode cX5_lotAnswer 62 = .ok (.aload_n 0, 1) := by decide +kernel
theorem dX5_lotAnswer_63 : decode cX5_lotAnswer 63 = .ok (.getfield 10, 3) := by decide +kernel
theorem dX5_lotAnswer_66 : decode cX5_lotAnswer 66 = .ok (.getfield 119, 3) := by decide +kernel
theorem dX5_lotAnswer_69 : decode cX5_lotAnswer 69 = .ok (.getfield 183, 3) := by decide +kernel
theorem dX5_lotAnswer_72 : decode cX5_lotAnswer 72 = .ok (.iload_n 1, 1) := by decide +kernel
theorem dX5_lotAnswer_73 : decode cX5_lotAnswer 73 = .ok (.iaload, 1) := by decide +kernel
theorem dX5_lotAnswer_74 : decode cX5_lotAnswer 74 = .ok (.ireturn, 1) := by decide +kernel
theorem dX5_lotAnswer_75 : decode cX5_lotAnswer 75 = .ok (.aload_n 0, 1) := by decide +kernel
theorem dX5_lotAnswer_76 : decode cX5_lotAnswer 76 = .ok (.getfield 10, 3) := by decide +kernel
theorem dX5_lotAnswer_79 : decode cX5_lotAnswer 79 = .ok (.getfield 119, 3) := by decide +kernel
theorem dX5_lotAnswer_82 : decode cX5_lotAnswer 82 = .ok (.getfield 186, 3) := by decide +kernel
theorem dX5_lotAnswer_85 : decode cX5_lotAnswer 85 = .ok (.iload_n 1, 1) := by decide +kernel
theorem dX5_lotAnswer_86 : decode cX5_lotAnswer 86 = .ok (.iaload, 1) := by decide +kernel
theorem dX5_lotAnswer_87 : decode cX5_lotAnswer 87 = .ok (.ireturn, 1) := by decide +kernel
theorem dX5_lotAnswer_88 : decode cX5_lotAnswer 88 = .ok (.aload_n 0, 1) := by decide +kernel
theorem dX5_lotAnswer_89 : decode cX5_lotAnswer 89 = .ok (.getfield 10, 3) := by decide +kernel
theorem dX5_lotAnswer_92 : decode cX5_lotAnswer 92 = .ok (.getfield 119, 3) := by decide +kernel
theorem dX5_lotAnswer_95 : decode cX5_lotAnswer 95 = .ok (.getfield 145, 3) := by decide +kernel
theorem dX5_lotAnswer_98 : decode cX5_lotAnswer 98 = .ok (.iload_n 1, 1) := by decide +kernel
theorem dX5_lotAnswer_99 : decode cX5_lotAnswer 99 = .ok (.iaload, 1) := by decide +kernel
theorem dX5_lotAnswer_100 : decode cX5_lotAnswer 100 = .ok (.ireturn, 1) := by decide +kernel
theorem dX5_lotAnswer_101 : decode cX5_lotAnswer 101 = .ok (.aload_n 0, 1) := by decide +kernel
theorem dX5_lotAnswer_102 : decode cX5_lotAnswer 102 = .ok (.getfield 10, 3) := by decide +kernel
theorem dX5_lotAnswer_105 : decode cX5_lotAnswer 105 = .ok (.getfield 102, 3) := by decide +kernel
theorem dX5_lotAnswer_108 : decode cX5_lotAnswer 108 = .ok (.iload_n 1, 1) := by decide +kernel
theorem dX5_lotAnswer_109 : decode cX5_lotAnswer 109 = .ok (.invokevirtual 302, 3) := by decide +kernel
theorem dX5_lotAnswer_112 : decode cX5_lotAnswer 112 = .ok (.ireturn, 1) := by decide +kernel
set_option maxRecDepth 20000 in
theorem ggX5_manyAnswer_X4_today : GoodIn wsX5_manyAnswer wsX4_today := goodIn_r _ [19, 20, 76, 77, 78] (by decide +kernel) (by decide +kernel)
set_option maxRecDepth 20000 in
theorem gX5_manyAnswer_X4_today : GoodIn wsX5_manyAnswer (wsV RX5 128 RX4 yX4_today wsX4_today) := goodIn_app (goodIn_of _ (by decide +kernel)) ggX5_manyAnswer_X4_today
set_option maxRecDepth 20000 in
theorem ggX5_manyAnswer_X4_ageOn : GoodIn wsX5_manyAnswer wsX4_ageOn := goodIn_r _ [24, 25, 76, 77, 78] (by decide +kernel) (by decide +kernel)
set_option maxRecDepth 20000 in
theorem gX5_manyAnswer_X4_ageOn : GoodIn wsX5_manyAnswer (wsV RX5 43 RX4 yX4_ageOn wsX4_ageOn) := goodIn_app (goodIn_of _ (by decide +kernel)) ggX5_manyAnswer_X4_ageOn
set_option maxRecDepth 20000 in
theorem ggX5_manyAnswer_X4_springOf : GoodIn wsX5_manyAnswer wsX4_springOf := goodIn_r _ [29, 30, 31, 32, 33, 34, 35, 36] (by decide +kernel) (by decide +kernel)
set_option maxRecDepth 20000 in
theorem gX5_manyAnswer_X4_springOf : GoodIn wsX5_manyAnswer (wsV RX5 305 RX4 yX4_springOf wsX4_springOf) := goodIn_app (goodIn_of _ (by decide +kernel)) ggX5_manyAnswer_X4_springOf
set_option maxRecDepth 20000 in
theorem ggX5_manyAnswer_X0_countOf : GoodIn wsX5_manyAnswer wsX0_countOf := goodIn_r _ [41, 42, 43, 90, 91, 92, 93, 94, 95, 96] (by decide +kernel) (by decide +kernel)
set_option maxRecDepth 20000 in
theorem gX5_manyAnswer_X0_countOf : GoodIn wsX5_manyAnswer (wsV RX5 157 RX0 yX0_countOf wsX0_countOf) := goodIn_app (goodIn_of _ (by decide +kernel)) ggX5_manyAnswer_X0_countOf
set_option maxRecDepth 20000 in
theorem ggX5_manyAnswer_X2_allSparks : GoodIn wsX5_manyAnswer wsX2_allSparks := goodIn_r _ [48, 49, 50, 85, 86, 87, 88, 89] (by decide +kernel) (by decide +kernel)
set_option maxRecDepth 20000 in
theorem gX5_manyAnswer_X2_allSparks : GoodIn wsX5_manyAnswer (wsV RX5 311 RX2 yX2_allSparks wsX2_allSparks) := goodIn_app (goodIn_of _ (by decide +kernel)) ggX5_manyAnswer_X2_allSparks
set_option maxRecDepth 20000 in
theorem ggX5_manyAnswer_X1_isAwake : GoodIn wsX5_manyAnswer wsX1_isAwake := goodIn_r _ [55, 56, 57, 58, 59, 60, 61, 18, 62, 20, 69, 70, 71, 72, 73, 74, 75, 76, 77, 78] (by decide +kernel) (by decide +kernel)
set_option maxRecDepth 20000 in
theorem gX5_manyAnswer_X1_isAwake : GoodIn wsX5_manyAnswer (wsV RX5 95 RX1 yX1_isAwake wsX1_isAwake) := goodIn_app (goodIn_of _ (by decide +kernel)) ggX5_manyAnswer_X1_isAwake
theorem dX5_manyAnswer_0 : decode cX5_manyAnswer 0 = .ok (.iload_n 1, 1) := by decide +kernel
theorem dX5_manyAnswer_1 : decode cX5_manyAnswer 1 = .ok (.tableswitch 278 0 15 #[79, 90, 101, 122, 153, 164, 175, 186, 197, 209, 221, 233, 241, 246, 257, 273], 79) := by decide +kernel
theorem dX5_manyAnswer_80 : decode cX5_manyAnswer 80 = .ok (.aload_n 0, 1) := by decide +kernel
theorem dX5_manyAnswer_81 : decode cX5_manyAnswer 81 = .ok (.getfield 10, 3) := by decide +kernel
theorem dX5_manyAnswer_84 : decode cX5_manyAnswer 84 = .ok (.getfield 30, 3) := by decide +kernel
theorem dX5_manyAnswer_87 : decode cX5_manyAnswer 87 = .ok (.getfield 40, 3) := by decide +kernel
theorem dX5_manyAnswer_90 : decode cX5_manyAnswer 90 = .ok (.ireturn, 1) := by decide +kernel
theorem dX5_manyAnswer_91 : decode cX5_manyAnswer 91 = .ok (.aload_n 0, 1) := by decide +kernel
theorem dX5_manyAnswer_92 : decode cX5_manyAnswer 92 = .ok (.getfield 10, 3) := by decide +kernel
theorem dX5_manyAnswer_95 : decode cX5_manyAnswer 95 = .ok (.getfield 30, 3) := by decide +kernel
theorem dX5_manyAnswer_98 : decode cX5_manyAnswer 98 = .ok (.invokevirtual 128, 3) := by decide +kernel
theorem dX5_manyAnswer_101 : decode cX5_manyAnswer 101 = .ok (.ireturn, 1) := by decide +kernel
theorem dX5_manyAnswer_102 : decode cX5_manyAnswer 102 = .ok (.aload_n 0, 1) := by decide +kernel
theorem dX5_manyAnswer_103 : decode cX5_manyAnswer 103 = .ok (.getfield 10, 3) := by decide +kernel
theorem dX5_manyAnswer_106 : decode cX5_manyAnswer 106 = .ok (.getfield 30, 3) := by decide +kernel
theorem dX5_manyAnswer_109 : decode cX5_manyAnswer 109 = .ok (.aload_n 0, 1) := by decide +kernel
theorem dX5_manyAnswer_110 : decode cX5_manyAnswer 110 = .ok (.getfield 10, 3) := by decide +kernel
theorem dX5_manyAnswer_113 : decode cX5_manyAnswer 113 = .ok (.getfield 30, 3) := by decide +kernel
theorem dX5_manyAnswer_116 : decode cX5_manyAnswer 116 = .ok (.getfield 40, 3) := by decide +kernel
theorem dX5_manyAnswer_119 : decode cX5_manyAnswer 119 = .ok (.invokevirtual 43, 3) := by decide +kernel
theorem dX5_manyAnswer_122 : decode cX5_manyAnswer 122 = .ok (.ireturn, 1) := by decide +kernel
theorem dX5_manyAnswer_123 : decode cX5_manyAnswer 123 = .ok (.aload_n 0, 1) := by decide +kernel
theorem dX5_manyAnswer_124 : decode cX5_manyAnswer 124 = .ok (.getfield 10, 3) := by decide +kernel
theorem dX5_manyAnswer_127 : decode cX5_manyAnswer 127 = .ok (.getfield 30, 3) := by decide +kernel
theorem dX5_manyAnswer_130 : decode cX5_manyAnswer 130 = .ok (.aload_n 0, 1) := by decide +kernel
theorem dX5_manyAnswer_131 : decode cX5_manyAnswer 131 = .ok (.getfield 10, 3) := by decide +kernel
theorem dX5_manyAnswer_134 : decode cX5_manyAnswer 134 = .ok (.getfield 30, 3) := by decide +kernel
theorem dX5_manyAnswer_137 : decode cX5_manyAnswer 137 = .ok (.aload_n 0, 1) := by decide +kernel
theorem dX5_manyAnswer_138 : decode cX5_manyAnswer 138 = .ok (.getfield 10, 3) := by decide +kernel
theorem dX5_manyAnswer_141 : decode cX5_manyAnswer 141 = .ok (.getfield 30, 3) := by decide +kernel
theorem dX5_manyAnswer_144 : decode cX5_manyAnswer 144 = .ok (.getfield 40, 3) := by decide +kernel
theorem dX5_manyAnswer_147 : decode cX5_manyAnswer 147 = .ok (.invokevirtual 43, 3) := by decide +kernel
theorem dX5_manyAnswer_150 : decode cX5_manyAnswer 150 = .ok (.invokevirtual 305, 3) := by decide +kernel
theorem dX5_manyAnswer_153 : decode cX5_manyAnswer 153 = .ok (.ireturn, 1) := by decide +kernel
theorem dX5_manyAnswer_154 : decode cX5_manyAnswer 154 = .ok (.aload_n 0, 1) := by decide +kernel
theorem dX5_manyAnswer_155 : decode cX5_manyAnswer 155 = .ok (.getfield 10, 3) := by decide +kernel
theorem dX5_manyAnswer_158 : decode cX5_manyAnswer 158 = .ok (.getfield 70, 3) := by decide +kernel
theorem dX5_manyAnswer_161 : decode cX5_manyAnswer 161 = .ok (.getfield 74, 3) := by decide +kernel
theorem dX5_manyAnswer_164 : decode cX5_manyAnswer 164 = .ok (.ireturn, 1) := by decide +kernel
theorem dX5_manyAnswer_165 : decode cX5_manyAnswer 165 = .ok (.aload_n 0, 1) := by decide +kernel
theorem dX5_manyAnswer_166 : decode cX5_manyAnswer 166 = .ok (.getfield 10, 3) := by decide +kernel
theorem dX5_manyAnswer_169 : decode cX5_manyAnswer 169 = .ok (.getfield 70, 3) := by decide +kernel
theorem dX5_manyAnswer_172 : decode cX5_manyAnswer 172 = .ok (.getfield 81, 3) := by decide +kernel
theorem dX5_manyAnswer_175 : decode cX5_manyAnswer 175 = .ok (.ireturn, 1) := by decide +kernel
theorem dX5_manyAnswer_176 : decode cX5_manyAnswer 176 = .ok (.aload_n 0, 1) := by decide +kernel
theorem dX5_manyAnswer_177 : decode cX5_manyAnswer 177 = .ok (.getfield 10, 3) := by decide +kernel
theorem dX5_manyAnswer_180 : decode cX5_manyAnswer 180 = .ok (.getfield 102, 3) := by decide +kernel
theorem dX5_manyAnswer_183 : decode cX5_manyAnswer 183 = .ok (.getfield 106, 3) := by decide +kernel
theorem dX5_manyAnswer_186 : decode cX5_manyAnswer 186 = .ok (.ireturn, 1) := by decide +kernel
theorem dX5_manyAnswer_187 : decode cX5_manyAnswer 187 = .ok (.aload_n 0, 1) := by decide +kernel
theorem dX5_manyAnswer_188 : decode cX5_manyAnswer 188 = .ok (.getfield 10, 3) := by decide +kernel
theorem dX5_manyAnswer_191 : decode cX5_manyAnswer 191 = .ok (.getfield 119, 3) := by decide +kernel
theorem dX5_manyAnswer_194 : decode cX5_manyAnswer 194 = .ok (.getfield 123, 3) := by decide +kernel
theorem dX5_manyAnswer_197 : decode cX5_manyAnswer 197 = .ok (.ireturn, 1) := by decide +kernel
theorem dX5_manyAnswer_198 : decode cX5_manyAnswer 198 = .ok (.aload_n 0, 1) := by decide +kernel
theorem dX5_manyAnswer_199 : decode cX5_manyAnswer 199 = .ok (.getfield 10, 3) := by decide +kernel
theorem dX5_manyAnswer_202 : decode cX5_manyAnswer 202 = .ok (.getfield 119, 3) := by decide +kernel
theorem dX5_manyAnswer_205 : decode cX5_manyAnswer 205 = .ok (.iconst 0, 1) := by decide +kernel
theorem dX5_manyAnswer_206 : decode cX5_manyAnswer 206 = .ok (.invokevirtual 157, 3) := by decide +kernel
theorem dX5_manyAnswer_209 : decode cX5_manyAnswer 209 = .ok (.ireturn, 1) := by decide +kernel
theorem dX5_manyAnswer_210 : decode cX5_manyAnswer 210 = .ok (.aload_n 0, 1) := by decide +kernel
theorem dX5_manyAnswer_211 : decode cX5_manyAnswer 211 = .ok (.getfield 10, 3) := by decide +kernel
theorem dX5_manyAnswer_214 : decode cX5_manyAnswer 214 = .ok (.getfield 119, 3) := by decide +kernel
theorem dX5_manyAnswer_217 : decode cX5_manyAnswer 217 = .ok (.iconst 2, 1) := by decide +kernel
theorem dX5_manyAnswer_218 : decode cX5_manyAnswer 218 = .ok (.invokevirtual 157, 3) := by decide +kernel
theorem dX5_manyAnswer_221 : decode cX5_manyAnswer 221 = .ok (.ireturn, 1) := by decide +kernel
theorem dX5_manyAnswer_222 : decode cX5_manyAnswer 222 = .ok (.aload_n 0, 1) := by decide +kernel
theorem dX5_manyAnswer_223 : decode cX5_manyAnswer 223 = .ok (.getfield 10, 3) := by decide +kernel
theorem dX5_manyAnswer_226 : decode cX5_manyAnswer 226 = .ok (.getfield 119, 3) := by decide +kernel
theorem dX5_manyAnswer_229 : decode cX5_manyAnswer 229 = .ok (.iconst 3, 1) := by decide +kernel
theorem dX5_manyAnswer_230 : decode cX5_manyAnswer 230 = .ok (.invokevirtual 157, 3) := by decide +kernel
theorem dX5_manyAnswer_233 : decode cX5_manyAnswer 233 = .ok (.ireturn, 1) := by decide +kernel
theorem dX5_manyAnswer_234 : decode cX5_manyAnswer 234 = .ok (.aload_n 0, 1) := by decide +kernel
theorem dX5_manyAnswer_235 : decode cX5_manyAnswer 235 = .ok (.getfield 10, 3) := by decide +kernel
theorem dX5_manyAnswer_238 : decode cX5_manyAnswer 238 = .ok (.getfield 308, 3) := by decide +kernel
theorem dX5_manyAnswer_241 : decode cX5_manyAnswer 241 = .ok (.ireturn, 1) := by decide +kernel
theorem dX5_manyAnswer_242 : decode cX5_manyAnswer 242 = .ok (.aload_n 0, 1) := by decide +kernel
theorem dX5_manyAnswer_243 : decode cX5_manyAnswer 243 = .ok (.getfield 206, 3) := by decide +kernel
theorem dX5_manyAnswer_246 : decode cX5_manyAnswer 246 = .ok (.ireturn, 1) := by decide +kernel
theorem dX5_manyAnswer_247 : decode cX5_manyAnswer 247 = .ok (.aload_n 0, 1) := by decide +kernel
theorem dX5_manyAnswer_248 : decode cX5_manyAnswer 248 = .ok (.getfield 10, 3) := by decide +kernel
theorem dX5_manyAnswer_251 : decode cX5_manyAnswer 251 = .ok (.getfield 102, 3) := by decide +kernel
theorem dX5_manyAnswer_254 : decode cX5_manyAnswer 254 = .ok (.invokevirtual 311, 3) := by decide +kernel
theorem dX5_manyAnswer_257 : decode cX5_manyAnswer 257 = .ok (.ireturn, 1) := by decide +kernel
theorem dX5_manyAnswer_258 : decode cX5_manyAnswer 258 = .ok (.aload_n 0, 1) := by decide +kernel
theorem dX5_manyAnswer_259 : decode cX5_manyAnswer 259 = .ok (.getfield 10, 3) := by decide +kernel
theorem dX5_manyAnswer_262 : decode cX5_manyAnswer 262 = .ok (.invokevirtual 95, 3) := by decide +kernel
theorem dX5_manyAnswer_265 : decode cX5_manyAnswer 265 = .ok (.ifCond .eq 7, 3) := by decide +kernel
theorem dX5_manyAnswer_268 : decode cX5_manyAnswer 268 = .ok (.iconst 1, 1) := by decide +kernel
theorem dX5_manyAnswer_269 : decode cX5_manyAnswer 269 = .ok (.goto 4, 3) := by decide +kernel
theorem dX5_manyAnswer_272 : decode cX5_manyAnswer 272 = .ok (.iconst 0, 1) := by decide +kernel
theorem dX5_manyAnswer_273 : decode cX5_manyAnswer 273 = .ok (.ireturn, 1) := by decide +kernel
theorem dX5_manyAnswer_274 : decode cX5_manyAnswer 274 = .ok (.aload_n 0, 1) := by decide +kernel
theorem dX5_manyAnswer_275 : decode cX5_manyAnswer 275 = .ok (.getfield 99, 3) := by decide +kernel
theorem dX5_manyAnswer_278 : decode cX5_manyAnswer 278 = .ok (.ireturn, 1) := by decide +kernel
theorem dX5_manyAnswer_279 : decode cX5_manyAnswer 279 = .ok (.aload_n 0, 1) := by decide +kernel
theorem dX5_manyAnswer_280 : decode cX5_manyAnswer 280 = .ok (.getfield 61, 3) := by decide +kernel
theorem dX5_manyAnswer_283 : decode cX5_manyAnswer 283 = .ok (.ifCond .eq 7, 3) := by decide +kernel
theorem dX5_manyAnswer_286 : decode cX5_manyAnswer 286 = .ok (.iconst 1, 1) := by decide +kernel
theorem dX5_manyAnswer_287 : decode cX5_manyAnswer 287 = .ok (.goto 4, 3) := by decide +kernel
theorem dX5_manyAnswer_290 : decode cX5_manyAnswer 290 = .ok (.iconst 0, 1) := by decide +kernel
theorem dX5_manyAnswer_291 : decode cX5_manyAnswer 291 = .ok (.ireturn, 1) := by decide +kernel
set_option maxRecDepth 20000 in
theorem ggX5_ticksToDone_X1_copyFrom : GoodIn wsX5_ticksToDone wsX1_copyFrom := goodIn_r _ [9, 10, 11, 12, 13, 14, 15, 16, 17, 18, 19, 20, 21, 22, 23, 24, 25, 26, 27, 28, 29, 30, 31, 32, 33, 34, 35, 36, 37, 38, 39, 40, 41, 42, 43, 44, 45, 46, 47, 48, 49, 50, 51, 52, 53, 54, 55, 56, 57, 58, 59, 60, 61, 62, 189, 190, 191, 192, 193, 194, 195, 203, 204, 205, 206, 207, 208, 209, 210, 211, 196, 197, 198, 199, 200, 201, 202, 212, 213, 214, 215, 216] (by decide +kernel) (by decide +kernel)
set_option maxRecDepth 20000 in
theorem gX5_ticksToDone_X1_copyFrom : GoodIn wsX5_ticksToDone (wsV RX5 250 RX1 yX1_copyFrom wsX1_copyFrom) := goodIn_app (goodIn_of _ (by decide +kernel)) ggX5_ticksToDone_X1_copyFrom
set_option maxRecDepth 20000 in
theorem ggX5_ticksToDone_X1_goBy : GoodIn wsX5_ticksToDone wsX1_goBy := goodIn_r _ [66, 11, 10, 67, 13, 68, 12, 16, 69, 70, 71, 72, 20, 73, 74, 75, 76, 24, 77, 78, 79, 80, 81, 82, 83, 84, 85, 86, 87, 23, 88, 89, 90, 91, 92, 93, 94, 95, 96, 97, 98, 99, 100, 101, 102, 103, 104, 105, 28, 106, 107, 108, 109, 110, 32, 30, 111, 31, 112, 113, 114, 115, 116, 117, 118, 119, 120, 121, 122, 123, 35, 33, 124, 125, 126, 127, 128, 34, 129, 130, 131, 132, 8, 133, 14, 15, 134, 135, 136, 137, 22, 138, 139, 140, 55, 141, 62, 60, 59, 142, 143, 144, 145, 57, 146, 147, 148, 39, 149, 51, 150, 151, 152, 153, 154, 155, 156, 157, 158, 159, 160, 50, 46, 49, 161, 162, 163, 164, 165, 166, 167, 168, 169, 170, 171, 172, 173, 174, 175, 176, 61, 177, 178, 179, 180, 181, 182, 189, 190, 191, 192, 193, 194, 195, 203, 204, 205, 206, 207, 208, 209, 210, 211, 212, 213, 214, 215, 216, 196, 197, 198, 199, 200, 201, 202] (by decide +kernel) (by decide +kernel)
set_option maxRecDepth 20000 in
theorem gX5_ticksToDone_X1_goBy : GoodIn wsX5_ticksToDone (wsV RX5 314 RX1 yX1_goBy wsX1_goBy) := goodIn_app (goodIn_of _ (by decide +kernel)) ggX5_ticksToDone_X1_goBy
theorem dX5_ticksToDone_0 : decode cX5_ticksToDone 0 = .ok (.aload_n 0, 1) := by decide +kernel
theorem dX5_ticksToDone_1 : decode cX5_ticksToDone 1 = .ok (.getfield 10, 3) := by decide +kernel
theorem dX5_ticksToDone_4 : decode cX5_ticksToDone 4 = .ok (.getfield 119, 3) := by decide +kernel
theorem dX5_ticksToDone_7 : decode cX5_ticksToDone 7 = .ok (.getfield 145, 3) := by decide +kernel
theorem dX5_ticksToDone_10 : decode cX5_ticksToDone 10 = .ok (.iload_n 1, 1) := by decide +kernel
theorem dX5_ticksToDone_11 : decode cX5_ticksToDone 11 = .ok (.iaload, 1) := by decide +kernel
theorem dX5_ticksToDone_12 : decode cX5_ticksToDone 12 = .ok (.istore_n 2, 1) := by decide +kernel
theorem dX5_ticksToDone_13 : decode cX5_ticksToDone 13 = .ok (.iload_n 2, 1) := by decide +kernel
theorem dX5_ticksToDone_14 : decode cX5_ticksToDone 14 = .ok (.iconst 2, 1) := by decide +kernel
theorem dX5_ticksToDone_15 : decode cX5_ticksToDone 15 = .ok (.if_icmp .eq 8, 3) := by decide +kernel
theorem dX5_ticksToDone_18 : decode cX5_ticksToDone 18 = .ok (.iload_n 2, 1) := by decide +kernel
theorem dX5_ticksToDone_19 : decode cX5_ticksToDone 19 = .ok (.iconst 3, 1) := by decide +kernel
theorem dX5_ticksToDone_20 : decode cX5_ticksToDone 20 = .ok (.if_icmp .ne 5, 3) := by decide +kernel
theorem dX5_ticksToDone_23 : decode cX5_ticksToDone 23 = .ok (.iconst 0, 1) := by decide +kernel
theorem dX5_ticksToDone_24 : decode cX5_ticksToDone 24 = .ok (.ireturn, 1) := by decide +kernel
theorem dX5_ticksToDone_25 : decode cX5_ticksToDone 25 = .ok (.iload_n 2, 1) := by decide +kernel
theorem dX5_ticksToDone_26 : decode cX5_ticksToDone 26 = .ok (.ifCond .ne 5, 3) := by decide +kernel
theorem dX5_ticksToDone_29 : decode cX5_ticksToDone 29 = .ok (.iconst (-1), 1) := by decide +kernel
theorem dX5_ticksToDone_30 : decode cX5_ticksToDone 30 = .ok (.ireturn, 1) := by decide +kernel
theorem dX5_ticksToDone_31 : decode cX5_ticksToDone 31 = .ok (.aload_n 0, 1) := by decide +kernel
theorem dX5_ticksToDone_32 : decode cX5_ticksToDone 32 = .ok (.getfield 16, 3) := by decide +kernel
theorem dX5_ticksToDone_35 : decode cX5_ticksToDone 35 = .ok (.aload_n 0, 1) := by decide +kernel
theorem dX5_ticksToDone_36 : decode cX5_ticksToDone 36 = .ok (.getfield 10, 3) := by decide +kernel
theorem dX5_ticksToDone_39 : decode cX5_ticksToDone 39 = .ok (.invokevirtual 250, 3) := by decide +kernel
theorem dX5_ticksToDone_42 : decode cX5_ticksToDone 42 = .ok (.iconst 1, 1) := by decide +kernel
theorem dX5_ticksToDone_43 : decode cX5_ticksToDone 43 = .ok (.istore_n 3, 1) := by decide +kernel
theorem dX5_ticksToDone_44 : decode cX5_ticksToDone 44 = .ok (.iload_n 3, 1) := by decide +kernel
theorem dX5_ticksToDone_45 : decode cX5_ticksToDone 45 = .ok (.sipush 300, 3) := by decide +kernel
theorem dX5_ticksToDone_48 : decode cX5_ticksToDone 48 = .ok (.if_icmp .gt 34, 3) := by decide +kernel
theorem dX5_ticksToDone_51 : decode cX5_ticksToDone 51 = .ok (.aload_n 0, 1) := by decide +kernel
theorem dX5_ticksToDone_52 : decode cX5_ticksToDone 52 = .ok (.getfield 16, 3) := by decide +kernel
theorem dX5_ticksToDone_55 : decode cX5_ticksToDone 55 = .ok (.invokevirtual 314, 3) := by decide +kernel
