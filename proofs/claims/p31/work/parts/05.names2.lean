theorem dX2_grind_22 : decode cX2_grind 22 = .ok (.dcmp .g, 1) := by decide +kernel
theorem dX2_grind_23 : decode cX2_grind 23 = .ok (.ifCond .ge 8, 3) := by decide +kernel
theorem dX2_grind_26 : decode cX2_grind 26 = .ok (.dload 6, 2) := by decide +kernel
theorem dX2_grind_28 : decode cX2_grind 28 = .ok (.goto 4, 3) := by decide +kernel
theorem dX2_grind_31 : decode cX2_grind 31 = .ok (.dload_n 2, 1) := by decide +kernel
theorem dX2_grind_32 : decode cX2_grind 32 = .ok (.dstore 8, 2) := by decide +kernel
theorem dX2_grind_34 : decode cX2_grind 34 = .ok (.dload 8, 2) := by decide +kernel
theorem dX2_grind_36 : decode cX2_grind 36 = .ok (.dload 6, 2) := by decide +kernel
theorem dX2_grind_38 : decode cX2_grind 38 = .ok (.ddiv, 1) := by decide +kernel
theorem dX2_grind_39 : decode cX2_grind 39 = .ok (.dstore 10, 2) := by decide +kernel
theorem dX2_grind_41 : decode cX2_grind 41 = .ok (.aload 4, 2) := by decide +kernel
theorem dX2_grind_43 : decode cX2_grind 43 = .ok (.iload 5, 2) := by decide +kernel
theorem dX2_grind_45 : decode cX2_grind 45 = .ok (.dload 10, 2) := by decide +kernel
theorem dX2_grind_47 : decode cX2_grind 47 = .ok (.invokevirtual 57, 3) := by decide +kernel
theorem dX2_grind_50 : decode cX2_grind 50 = .ok (.aload_n 0, 1) := by decide +kernel
theorem dX2_grind_51 : decode cX2_grind 51 = .ok (.iload_n 1, 1) := by decide +kernel
theorem dX2_grind_52 : decode cX2_grind 52 = .ok (.dload 10, 2) := by decide +kernel
theorem dX2_grind_54 : decode cX2_grind 54 = .ok (.d2f, 1) := by decide +kernel
theorem dX2_grind_55 : decode cX2_grind 55 = .ok (.aload 4, 2) := by decide +kernel
theorem dX2_grind_57 : decode cX2_grind 57 = .ok (.getfield 60, 3) := by decide +kernel
theorem dX2_grind_60 : decode cX2_grind 60 = .ok (.iload 5, 2) := by decide +kernel
theorem dX2_grind_62 : decode cX2_grind 62 = .ok (.iaload, 1) := by decide +kernel
theorem dX2_grind_63 : decode cX2_grind 63 = .ok (.invokestatic 63, 3) := by decide +kernel
theorem dX2_grind_66 : decode cX2_grind 66 = .ok (.fmul, 1) := by decide +kernel
theorem dX2_grind_67 : decode cX2_grind 67 = .ok (.ldc 67, 2) := by decide +kernel
theorem dX2_grind_69 : decode cX2_grind 69 = .ok (.fdiv, 1) := by decide +kernel
theorem dX2_grind_70 : decode cX2_grind 70 = .ok (.invokevirtual 53, 3) := by decide +kernel
theorem dX2_grind_73 : decode cX2_grind 73 = .ok (.aload 4, 2) := by decide +kernel
theorem dX2_grind_75 : decode cX2_grind 75 = .ok (.getfield 68, 3) := by decide +kernel
theorem dX2_grind_78 : decode cX2_grind 78 = .ok (.iload 5, 2) := by decide +kernel
theorem dX2_grind_80 : decode cX2_grind 80 = .ok (.iaload, 1) := by decide +kernel
theorem dX2_grind_81 : decode cX2_grind 81 = .ok (.iconst 2, 1) := by decide +kernel
theorem dX2_grind_82 : decode cX2_grind 82 = .ok (.if_icmp .ne 10, 3) := by decide +kernel
theorem dX2_grind_85 : decode cX2_grind 85 = .ok (.aload_n 0, 1) := by decide +kernel
theorem dX2_grind_86 : decode cX2_grind 86 = .ok (.getfield 15, 3) := by decide +kernel
theorem dX2_grind_89 : decode cX2_grind 89 = .ok (.iload_n 1, 1) := by decide +kernel
theorem dX2_grind_90 : decode cX2_grind 90 = .ok (.iconst (-1), 1) := by decide +kernel
theorem dX2_grind_91 : decode cX2_grind 91 = .ok (.iastore, 1) := by decide +kernel
theorem dX2_grind_92 : decode cX2_grind 92 = .ok (.dload 8, 2) := by decide +kernel
theorem dX2_grind_94 : decode cX2_grind 94 = .ok (.dreturn, 1) := by decide +kernel
theorem dX2_blunt_0 : decode cX2_blunt 0 = .ok (.aload_n 0, 1) := by decide +kernel
theorem dX2_blunt_1 : decode cX2_blunt 1 = .ok (.getfield 9, 3) := by decide +kernel
theorem dX2_blunt_4 : decode cX2_blunt 4 = .ok (.iload_n 1, 1) := by decide +kernel
theorem dX2_blunt_5 : decode cX2_blunt 5 = .ok (.faload, 1) := by decide +kernel
theorem dX2_blunt_6 : decode cX2_blunt 6 = .ok (.fload_n 2, 1) := by decide +kernel
theorem dX2_blunt_7 : decode cX2_blunt 7 = .ok (.fadd, 1) := by decide +kernel
theorem dX2_blunt_8 : decode cX2_blunt 8 = .ok (.fstore_n 3, 1) := by decide +kernel
theorem dX2_blunt_9 : decode cX2_blunt 9 = .ok (.aload_n 0, 1) := by decide +kernel
theorem dX2_blunt_10 : decode cX2_blunt 10 = .ok (.getfield 9, 3) := by decide +kernel
theorem dX2_blunt_13 : decode cX2_blunt 13 = .ok (.iload_n 1, 1) := by decide +kernel
theorem dX2_blunt_14 : decode cX2_blunt 14 = .ok (.fload_n 3, 1) := by decide +kernel
theorem dX2_blunt_15 : decode cX2_blunt 15 = .ok (.fconst 1, 1) := by decide +kernel
theorem dX2_blunt_16 : decode cX2_blunt 16 = .ok (.fcmp .l, 1) := by decide +kernel
theorem dX2_blunt_17 : decode cX2_blunt 17 = .ok (.ifCond .le 7, 3) := by decide +kernel
theorem dX2_blunt_20 : decode cX2_blunt 20 = .ok (.fconst 1, 1) := by decide +kernel
theorem dX2_blunt_21 : decode cX2_blunt 21 = .ok (.goto 4, 3) := by decide +kernel
theorem dX2_blunt_24 : decode cX2_blunt 24 = .ok (.fload_n 3, 1) := by decide +kernel
theorem dX2_blunt_25 : decode cX2_blunt 25 = .ok (.fastore, 1) := by decide +kernel
theorem dX2_blunt_26 : decode cX2_blunt 26 = .ok (.return_, 1) := by decide +kernel
theorem dX3_init_0 : decode cX3_init 0 = .ok (.aload_n 0, 1) := by decide +kernel
theorem dX3_init_1 : decode cX3_init 1 = .ok (.invokespecial 1, 3) := by decide +kernel
theorem dX3_init_4 : decode cX3_init 4 = .ok (.return_, 1) := by decide +kernel
theorem dX3_copyFrom_0 : decode cX3_copyFrom 0 = .ok (.aload_n 0, 1) := by decide +kernel
theorem dX3_copyFrom_1 : decode cX3_copyFrom 1 = .ok (.aload_n 1, 1) := by decide +kernel
theorem dX3_copyFrom_2 : decode cX3_copyFrom 2 = .ok (.getfield 7, 3) := by decide +kernel
theorem dX3_copyFrom_5 : decode cX3_copyFrom 5 = .ok (.putfield 7, 3) := by decide +kernel
theorem dX3_copyFrom_8 : decode cX3_copyFrom 8 = .ok (.aload_n 0, 1) := by decide +kernel
theorem dX3_copyFrom_9 : decode cX3_copyFrom 9 = .ok (.aload_n 1, 1) := by decide +kernel
theorem dX3_copyFrom_10 : decode cX3_copyFrom 10 = .ok (.getfield 13, 3) := by decide +kernel
theorem dX3_copyFrom_13 : decode cX3_copyFrom 13 = .ok (.putfield 13, 3) := by decide +kernel
theorem dX3_copyFrom_16 : decode cX3_copyFrom 16 = .ok (.aload_n 0, 1) := by decide +kernel
theorem dX3_copyFrom_17 : decode cX3_copyFrom 17 = .ok (.aload_n 1, 1) := by decide +kernel
theorem dX3_copyFrom_18 : decode cX3_copyFrom 18 = .ok (.getfield 17, 3) := by decide +kernel
theorem dX3_copyFrom_21 : decode cX3_copyFrom 21 = .ok (.putfield 17, 3) := by decide +kernel
theorem dX3_copyFrom_24 : decode cX3_copyFrom 24 = .ok (.aload_n 0, 1) := by decide +kernel
theorem dX3_copyFrom_25 : decode cX3_copyFrom 25 = .ok (.aload_n 1, 1) := by decide +kernel
theorem dX3_copyFrom_26 : decode cX3_copyFrom 26 = .ok (.getfield 21, 3) := by decide +kernel
theorem dX3_copyFrom_29 : decode cX3_copyFrom 29 = .ok (.putfield 21, 3) := by decide +kernel
theorem dX3_copyFrom_32 : decode cX3_copyFrom 32 = .ok (.aload_n 0, 1) := by decide +kernel
theorem dX3_copyFrom_33 : decode cX3_copyFrom 33 = .ok (.aload_n 1, 1) := by decide +kernel
theorem dX3_copyFrom_34 : decode cX3_copyFrom 34 = .ok (.getfield 24, 3) := by decide +kernel
theorem dX3_copyFrom_37 : decode cX3_copyFrom 37 = .ok (.putfield 24, 3) := by decide +kernel
theorem dX3_copyFrom_40 : decode cX3_copyFrom 40 = .ok (.aload_n 0, 1) := by decide +kernel
theorem dX3_copyFrom_41 : decode cX3_copyFrom 41 = .ok (.aload_n 1, 1) := by decide +kernel
theorem dX3_copyFrom_42 : decode cX3_copyFrom 42 = .ok (.getfield 28, 3) := by decide +kernel
theorem dX3_copyFrom_45 : decode cX3_copyFrom 45 = .ok (.putfield 28, 3) := by decide +kernel
theorem dX3_copyFrom_48 : decode cX3_copyFrom 48 = .ok (.return_, 1) := by decide +kernel
theorem dX3_area_0 : decode cX3_area 0 = .ok (.ldc2_w 31, 3) := by decide +kernel
theorem dX3_area_3 : decode cX3_area 3 = .ok (.aload_n 0, 1) := by decide +kernel
theorem dX3_area_4 : decode cX3_area 4 = .ok (.getfield 13, 3) := by decide +kernel
theorem dX3_area_7 : decode cX3_area 7 = .ok (.f2d, 1) := by decide +kernel
theorem dX3_area_8 : decode cX3_area 8 = .ok (.dsub, 1) := by decide +kernel
theorem dX3_area_9 : decode cX3_area 9 = .ok (.dreturn, 1) := by decide +kernel
set_option maxRecDepth 20000 in
theorem ggX3_goBy_X3_fill : GoodIn wsX3_goBy wsX3_fill := goodIn_r _ [5, 6, 7, 8, 9, 10, 11, 12, 13, 14, 4, 15, 16, 31, 32, 33, 34, 35, 36] (by decide +kernel) (by decide +kernel)
set_option maxRecDepth 20000 in
theorem gX3_goBy_X3_fill : GoodIn wsX3_goBy (wsV RX3 33 RX3 yX3_fill wsX3_fill) := goodIn_app (goodIn_of _ (by decide +kernel)) ggX3_goBy_X3_fill
set_option maxRecDepth 20000 in
theorem ggX3_goBy_X3_turnWheel : GoodIn wsX3_goBy wsX3_turnWheel := goodIn_r _ [20, 7, 21, 22, 23, 8, 24, 12, 13, 14, 4, 15, 16, 9, 31, 32, 33, 34, 35, 36] (by decide +kernel) (by decide +kernel)
set_option maxRecDepth 20000 in
theorem gX3_goBy_X3_turnWheel : GoodIn wsX3_goBy (wsV RX3 37 RX3 yX3_turnWheel wsX3_turnWheel) := goodIn_app (goodIn_of _ (by decide +kernel)) ggX3_goBy_X3_turnWheel
set_option maxRecDepth 20000 in
theorem ggX3_goBy_X3_scourOut : GoodIn wsX3_goBy wsX3_scourOut := goodIn_r _ [28, 29, 7, 24, 9, 30, 31, 32, 33, 34, 35, 36] (by decide +kernel) (by decide +kernel)
set_option maxRecDepth 20000 in
theorem gX3_goBy_X3_scourOut : GoodIn wsX3_goBy (wsV RX3 40 RX3 yX3_scourOut wsX3_scourOut) := goodIn_app (goodIn_of _ (by decide +kernel)) ggX3_goBy_X3_scourOut
theorem dX3_goBy_0 : decode cX3_goBy 0 = .ok (.aload_n 0, 1) := by decide +kernel
theorem dX3_goBy_1 : decode cX3_goBy 1 = .ok (.dload_n 1, 1) := by decide +kernel
theorem dX3_goBy_2 : decode cX3_goBy 2 = .ok (.invokevirtual 33, 3) := by decide +kernel
theorem dX3_goBy_5 : decode cX3_goBy 5 = .ok (.aload_n 0, 1) := by decide +kernel
theorem dX3_goBy_6 : decode cX3_goBy 6 = .ok (.dload_n 1, 1) := by decide +kernel
theorem dX3_goBy_7 : decode cX3_goBy 7 = .ok (.invokevirtual 37, 3) := by decide +kernel
theorem dX3_goBy_10 : decode cX3_goBy 10 = .ok (.aload_n 0, 1) := by decide +kernel
theorem dX3_goBy_11 : decode cX3_goBy 11 = .ok (.dload_n 1, 1) := by decide +kernel
theorem dX3_goBy_12 : decode cX3_goBy 12 = .ok (.invokevirtual 40, 3) := by decide +kernel
theorem dX3_goBy_15 : decode cX3_goBy 15 = .ok (.return_, 1) := by decide +kernel
set_option maxRecDepth 20000 in
theorem ggX3_fill_X3_area : GoodIn wsX3_fill wsX3_area := goodIn_r _ [11, 12, 4, 13, 14, 15, 16, 17, 18] (by decide +kernel) (by decide +kernel)
set_option maxRecDepth 20000 in
theorem gX3_fill_X3_area : GoodIn wsX3_fill (wsV RX3 45 RX3 yX3_area wsX3_area) := goodIn_app (goodIn_of _ (by decide +kernel)) ggX3_fill_X3_area
theorem dX3_fill_0 : decode cX3_fill 0 = .ok (.aload_n 0, 1) := by decide +kernel
theorem dX3_fill_1 : decode cX3_fill 1 = .ok (.getfield 17, 3) := by decide +kernel
theorem dX3_fill_4 : decode cX3_fill 4 = .ok (.ifCond .le 75, 3) := by decide +kernel
theorem dX3_fill_7 : decode cX3_fill 7 = .ok (.dload_n 1, 1) := by decide +kernel
theorem dX3_fill_8 : decode cX3_fill 8 = .ok (.aload_n 0, 1) := by decide +kernel
theorem dX3_fill_9 : decode cX3_fill 9 = .ok (.getfield 7, 3) := by decide +kernel
theorem dX3_fill_12 : decode cX3_fill 12 = .ok (.dcmp .l, 1) := by decide +kernel
theorem dX3_fill_13 : decode cX3_fill 13 = .ok (.ifCond .le 66, 3) := by decide +kernel
theorem dX3_fill_16 : decode cX3_fill 16 = .ok (.aload_n 0, 1) := by decide +kernel
theorem dX3_fill_17 : decode cX3_fill 17 = .ok (.getfield 17, 3) := by decide +kernel
theorem dX3_fill_20 : decode cX3_fill 20 = .ok (.i2d, 1) := by decide +kernel
theorem dX3_fill_21 : decode cX3_fill 21 = .ok (.dload_n 1, 1) := by decide +kernel
theorem dX3_fill_22 : decode cX3_fill 22 = .ok (.aload_n 0, 1) := by decide +kernel
theorem dX3_fill_23 : decode cX3_fill 23 = .ok (.getfield 7, 3) := by decide +kernel
theorem dX3_fill_26 : decode cX3_fill 26 = .ok (.dsub, 1) := by decide +kernel
theorem dX3_fill_27 : decode cX3_fill 27 = .ok (.dmul, 1) := by decide +kernel
theorem dX3_fill_28 : decode cX3_fill 28 = .ok (.ldc2_w 43, 3) := by decide +kernel
theorem dX3_fill_31 : decode cX3_fill 31 = .ok (.dmul, 1) := by decide +kernel
theorem dX3_fill_32 : decode cX3_fill 32 = .ok (.dstore_n 3, 1) := by decide +kernel
theorem dX3_fill_33 : decode cX3_fill 33 = .ok (.aload_n 0, 1) := by decide +kernel
theorem dX3_fill_34 : decode cX3_fill 34 = .ok (.dup, 1) := by decide +kernel
theorem dX3_fill_35 : decode cX3_fill 35 = .ok (.getfield 7, 3) := by decide +kernel
theorem dX3_fill_38 : decode cX3_fill 38 = .ok (.dload_n 3, 1) := by decide +kernel
theorem dX3_fill_39 : decode cX3_fill 39 = .ok (.aload_n 0, 1) := by decide +kernel
theorem dX3_fill_40 : decode cX3_fill 40 = .ok (.invokevirtual 45, 3) := by decide +kernel
theorem dX3_fill_43 : decode cX3_fill 43 = .ok (.ddiv, 1) := by decide +kernel
theorem dX3_fill_44 : decode cX3_fill 44 = .ok (.dadd, 1) := by decide +kernel
theorem dX3_fill_45 : decode cX3_fill 45 = .ok (.putfield 7, 3) := by decide +kernel
theorem dX3_fill_48 : decode cX3_fill 48 = .ok (.aload_n 0, 1) := by decide +kernel
theorem dX3_fill_49 : decode cX3_fill 49 = .ok (.getfield 13, 3) := by decide +kernel
theorem dX3_fill_52 : decode cX3_fill 52 = .ok (.dload_n 3, 1) := by decide +kernel
theorem dX3_fill_53 : decode cX3_fill 53 = .ok (.d2f, 1) := by decide +kernel
theorem dX3_fill_54 : decode cX3_fill 54 = .ok (.ldc 49, 2) := by decide +kernel
theorem dX3_fill_56 : decode cX3_fill 56 = .ok (.fdiv, 1) := by decide +kernel
theorem dX3_fill_57 : decode cX3_fill 57 = .ok (.fadd, 1) := by decide +kernel
theorem dX3_fill_58 : decode cX3_fill 58 = .ok (.fstore 5, 2) := by decide +kernel
theorem dX3_fill_60 : decode cX3_fill 60 = .ok (.aload_n 0, 1) := by decide +kernel
theorem dX3_fill_61 : decode cX3_fill 61 = .ok (.fload 5, 2) := by decide +kernel
theorem dX3_fill_63 : decode cX3_fill 63 = .ok (.ldc 50, 2) := by decide +kernel
theorem dX3_fill_65 : decode cX3_fill 65 = .ok (.fcmp .l, 1) := by decide +kernel
theorem dX3_fill_66 : decode cX3_fill 66 = .ok (.ifCond .le 8, 3) := by decide +kernel
theorem dX3_fill_69 : decode cX3_fill 69 = .ok (.ldc 50, 2) := by decide +kernel
theorem dX3_fill_71 : decode cX3_fill 71 = .ok (.goto 5, 3) := by decide +kernel
theorem dX3_fill_74 : decode cX3_fill 74 = .ok (.fload 5, 2) := by decide +kernel
theorem dX3_fill_76 : decode cX3_fill 76 = .ok (.putfield 13, 3) := by decide +kernel
theorem dX3_fill_79 : decode cX3_fill 79 = .ok (.return_, 1) := by decide +kernel
set_option maxRecDepth 20000 in
theorem ggX3_turnWheel_X3_area : GoodIn wsX3_turnWheel wsX3_area := goodIn_r _ [11, 12, 13, 14, 15, 16, 17, 18, 19] (by decide +kernel) (by decide +kernel)
set_option maxRecDepth 20000 in
theorem gX3_turnWheel_X3_area : GoodIn wsX3_turnWheel (wsV RX3 45 RX3 yX3_area wsX3_area) := goodIn_app (goodIn_of _ (by decide +kernel)) ggX3_turnWheel_X3_area
theorem dX3_turnWheel_0 : decode cX3_turnWheel 0 = .ok (.aload_n 0, 1) := by decide +kernel
theorem dX3_turnWheel_1 : decode cX3_turnWheel 1 = .ok (.getfield 7, 3) := by decide +kernel
theorem dX3_turnWheel_4 : decode cX3_turnWheel 4 = .ok (.dload_n 1, 1) := by decide +kernel
theorem dX3_turnWheel_5 : decode cX3_turnWheel 5 = .ok (.ldc2_w 51, 3) := by decide +kernel
theorem dX3_turnWheel_8 : decode cX3_turnWheel 8 = .ok (.dcmp .l, 1) := by decide +kernel
theorem dX3_turnWheel_9 : decode cX3_turnWheel 9 = .ok (.ifCond .le 7, 3) := by decide +kernel
theorem dX3_turnWheel_12 : decode cX3_turnWheel 12 = .ok (.dload_n 1, 1) := by decide +kernel
theorem dX3_turnWheel_13 : decode cX3_turnWheel 13 = .ok (.goto 6, 3) := by decide +kernel
theorem dX3_turnWheel_16 : decode cX3_turnWheel 16 = .ok (.ldc2_w 51, 3) := by decide +kernel
theorem dX3_turnWheel_19 : decode cX3_turnWheel 19 = .ok (.dsub, 1) := by decide +kernel
theorem dX3_turnWheel_20 : decode cX3_turnWheel 20 = .ok (.dstore_n 3, 1) := by decide +kernel
theorem dX3_turnWheel_21 : decode cX3_turnWheel 21 = .ok (.aload_n 0, 1) := by decide +kernel
theorem dX3_turnWheel_22 : decode cX3_turnWheel 22 = .ok (.dconst 0, 1) := by decide +kernel
theorem dX3_turnWheel_23 : decode cX3_turnWheel 23 = .ok (.putfield 28, 3) := by decide +kernel
theorem dX3_turnWheel_26 : decode cX3_turnWheel 26 = .ok (.aload_n 0, 1) := by decide +kernel
theorem dX3_turnWheel_27 : decode cX3_turnWheel 27 = .ok (.getfield 21, 3) := by decide +kernel
theorem dX3_turnWheel_30 : decode cX3_turnWheel 30 = .ok (.ifCond .le 48, 3) := by decide +kernel
theorem dX3_turnWheel_33 : decode cX3_turnWheel 33 = .ok (.dload_n 3, 1) := by decide +kernel
theorem dX3_turnWheel_34 : decode cX3_turnWheel 34 = .ok (.ldc2_w 43, 3) := by decide +kernel
theorem dX3_turnWheel_37 : decode cX3_turnWheel 37 = .ok (.dcmp .l, 1) := by decide +kernel
theorem dX3_turnWheel_38 : decode cX3_turnWheel 38 = .ok (.ifCond .lt 40, 3) := by decide +kernel
theorem dX3_turnWheel_41 : decode cX3_turnWheel 41 = .ok (.aload_n 0, 1) := by decide +kernel
theorem dX3_turnWheel_42 : decode cX3_turnWheel 42 = .ok (.getfield 21, 3) := by decide +kernel
theorem dX3_turnWheel_45 : decode cX3_turnWheel 45 = .ok (.i2d, 1) := by decide +kernel
theorem dX3_turnWheel_46 : decode cX3_turnWheel 46 = .ok (.dload_n 3, 1) := by decide +kernel
theorem dX3_turnWheel_47 : decode cX3_turnWheel 47 = .ok (.dmul, 1) := by decide +kernel
theorem dX3_turnWheel_48 : decode cX3_turnWheel 48 = .ok (.ldc2_w 53, 3) := by decide +kernel
theorem dX3_turnWheel_51 : decode cX3_turnWheel 51 = .ok (.dmul, 1) := by decide +kernel
theorem dX3_turnWheel_52 : decode cX3_turnWheel 52 = .ok (.dstore 5, 2) := by decide +kernel
theorem dX3_turnWheel_54 : decode cX3_turnWheel 54 = .ok (.aload_n 0, 1) := by decide +kernel
theorem dX3_turnWheel_55 : decode cX3_turnWheel 55 = .ok (.dup, 1) := by decide +kernel
theorem dX3_turnWheel_56 : decode cX3_turnWheel 56 = .ok (.getfield 7, 3) := by decide +kernel
theorem dX3_turnWheel_59 : decode cX3_turnWheel 59 = .ok (.dload 5, 2) := by decide +kernel
theorem dX3_turnWheel_61 : decode cX3_turnWheel 61 = .ok (.aload_n 0, 1) := by decide +kernel
theorem dX3_turnWheel_62 : decode cX3_turnWheel 62 = .ok (.invokevirtual 45, 3) := by decide +kernel
theorem dX3_turnWheel_65 : decode cX3_turnWheel 65 = .ok (.ddiv, 1) := by decide +kernel
theorem dX3_turnWheel_66 : decode cX3_turnWheel 66 = .ok (.dsub, 1) := by decide +kernel
theorem dX3_turnWheel_67 : decode cX3_turnWheel 67 = .ok (.putfield 7, 3) := by decide +kernel
theorem dX3_turnWheel_70 : decode cX3_turnWheel 70 = .ok (.aload_n 0, 1) := by decide +kernel
theorem dX3_turnWheel_71 : decode cX3_turnWheel 71 = .ok (.dload 5, 2) := by decide +kernel
theorem dX3_turnWheel_73 : decode cX3_turnWheel 73 = .ok (.dload_n 3, 1) := by decide +kernel
theorem dX3_turnWheel_74 : decode cX3_turnWheel 74 = .ok (.dmul, 1) := by decide +kernel
theorem dX3_turnWheel_75 : decode cX3_turnWheel 75 = .ok (.putfield 28, 3) := by decide +kernel
theorem dX3_turnWheel_78 : decode cX3_turnWheel 78 = .ok (.return_, 1) := by decide +kernel
theorem dX3_scourOut_0 : decode cX3_scourOut 0 = .ok (.aload_n 0, 1) := by decide +kernel
theorem dX3_scourOut_1 : decode cX3_scourOut 1 = .ok (.getfield 24, 3) := by decide +kernel
theorem dX3_scourOut_4 : decode cX3_scourOut 4 = .ok (.ifCond .eq 49, 3) := by decide +kernel
theorem dX3_scourOut_7 : decode cX3_scourOut 7 = .ok (.aload_n 0, 1) := by decide +kernel
theorem dX3_scourOut_8 : decode cX3_scourOut 8 = .ok (.getfield 7, 3) := by decide +kernel
theorem dX3_scourOut_11 : decode cX3_scourOut 11 = .ok (.dload_n 1, 1) := by decide +kernel
theorem dX3_scourOut_12 : decode cX3_scourOut 12 = .ok (.dsub, 1) := by decide +kernel
theorem dX3_scourOut_13 : decode cX3_scourOut 13 = .ok (.dconst 1, 1) := by decide +kernel
theorem dX3_scourOut_14 : decode cX3_scourOut 14 = .ok (.dcmp .l, 1) := by decide +kernel
theorem dX3_scourOut_15 : decode cX3_scourOut 15 = .ok (.ifCond .lt 38, 3) := by decide +kernel
theorem dX3_scourOut_18 : decode cX3_scourOut 18 = .ok (.aload_n 0, 1) := by decide +kernel
theorem dX3_scourOut_19 : decode cX3_scourOut 19 = .ok (.dup, 1) := by decide +kernel
theorem dX3_scourOut_20 : decode cX3_scourOut 20 = .ok (.getfield 7, 3) := by decide +kernel
theorem dX3_scourOut_23 : decode cX3_scourOut 23 = .ok (.ldc2_w 53, 3) := by decide +kernel
theorem dX3_scourOut_26 : decode cX3_scourOut 26 = .ok (.dsub, 1) := by decide +kernel
theorem dX3_scourOut_27 : decode cX3_scourOut 27 = .ok (.putfield 7, 3) := by decide +kernel
theorem dX3_scourOut_30 : decode cX3_scourOut 30 = .ok (.aload_n 0, 1) := by decide +kernel
theorem dX3_scourOut_31 : decode cX3_scourOut 31 = .ok (.getfield 13, 3) := by decide +kernel
theorem dX3_scourOut_34 : decode cX3_scourOut 34 = .ok (.ldc 55, 2) := by decide +kernel
theorem dX3_scourOut_36 : decode cX3_scourOut 36 = .ok (.fsub, 1) := by decide +kernel
theorem dX3_scourOut_37 : decode cX3_scourOut 37 = .ok (.fstore_n 3, 1) := by decide +kernel
theorem dX3_scourOut_38 : decode cX3_scourOut 38 = .ok (.aload_n 0, 1) := by decide +kernel
theorem dX3_scourOut_39 : decode cX3_scourOut 39 = .ok (.fload_n 3, 1) := by decide +kernel
theorem dX3_scourOut_40 : decode cX3_scourOut 40 = .ok (.fconst 0, 1) := by decide +kernel
theorem dX3_scourOut_41 : decode cX3_scourOut 41 = .ok (.fcmp .g, 1) := by decide +kernel
theorem dX3_scourOut_42 : decode cX3_scourOut 42 = .ok (.ifCond .ge 7, 3) := by decide +kernel
theorem dX3_scourOut_45 : decode cX3_scourOut 45 = .ok (.fconst 0, 1) := by decide +kernel
theorem dX3_scourOut_46 : decode cX3_scourOut 46 = .ok (.goto 4, 3) := by decide +kernel
theorem dX3_scourOut_49 : decode cX3_scourOut 49 = .ok (.fload_n 3, 1) := by decide +kernel
theorem dX3_scourOut_50 : decode cX3_scourOut 50 = .ok (.putfield 13, 3) := by decide +kernel
theorem dX3_scourOut_53 : decode cX3_scourOut 53 = .ok (.return_, 1) := by decide +kernel
theorem dX4_init_0 : decode cX4_init 0 = .ok (.aload_n 0, 1) := by decide +kernel
theorem dX4_init_1 : decode cX4_init 1 = .ok (.invokespecial 3, 3) := by decide +kernel
theorem dX4_init_4 : decode cX4_init 4 = .ok (.return_, 1) := by decide +kernel
theorem dX4_copyFrom_0 : decode cX4_copyFrom 0 = .ok (.aload_n 0, 1) := by decide +kernel
theorem dX4_copyFrom_1 : decode cX4_copyFrom 1 = .ok (.aload_n 1, 1) := by decide +kernel
theorem dX4_copyFrom_2 : decode cX4_copyFrom 2 = .ok (.getfield 9, 3) := by decide +kernel
theorem dX4_copyFrom_5 : decode cX4_copyFrom 5 = .ok (.putfield 9, 3) := by decide +kernel
theorem dX4_copyFrom_8 : decode cX4_copyFrom 8 = .ok (.aload_n 0, 1) := by decide +kernel
theorem dX4_copyFrom_9 : decode cX4_copyFrom 9 = .ok (.aload_n 1, 1) := by decide +kernel
theorem dX4_copyFrom_10 : decode cX4_copyFrom 10 = .ok (.getfield 15, 3) := by decide +kernel
theorem dX4_copyFrom_13 : decode cX4_copyFrom 13 = .ok (.putfield 15, 3) := by decide +kernel
theorem dX4_copyFrom_16 : decode cX4_copyFrom 16 = .ok (.aload_n 0, 1) := by decide +kernel
theorem dX4_copyFrom_17 : decode cX4_copyFrom 17 = .ok (.aload_n 1, 1) := by decide +kernel
theorem dX4_copyFrom_18 : decode cX4_copyFrom 18 = .ok (.getfield 18, 3) := by decide +kernel
theorem dX4_copyFrom_21 : decode cX4_copyFrom 21 = .ok (.putfield 18, 3) := by decide +kernel
theorem dX4_copyFrom_24 : decode cX4_copyFrom 24 = .ok (.return_, 1) := by decide +kernel
theorem dX4_today_0 : decode cX4_today 0 = .ok (.aload_n 0, 1) := by decide +kernel
theorem dX4_today_1 : decode cX4_today 1 = .ok (.getfield 9, 3) := by decide +kernel
theorem dX4_today_4 : decode cX4_today 4 = .ok (.bipush 48, 2) := by decide +kernel
theorem dX4_today_6 : decode cX4_today 6 = .ok (.idiv, 1) := by decide +kernel
theorem dX4_today_7 : decode cX4_today 7 = .ok (.ireturn, 1) := by decide +kernel
theorem dX4_hourNow_0 : decode cX4_hourNow 0 = .ok (.aload_n 0, 1) := by decide +kernel
theorem dX4_hourNow_1 : decode cX4_hourNow 1 = .ok (.getfield 9, 3) := by decide +kernel
theorem dX4_hourNow_4 : decode cX4_hourNow 4 = .ok (.bipush 48, 2) := by decide +kernel
theorem dX4_hourNow_6 : decode cX4_hourNow 6 = .ok (.irem, 1) := by decide +kernel
theorem dX4_hourNow_7 : decode cX4_hourNow 7 = .ok (.ireturn, 1) := by decide +kernel
theorem dX4_ageOn_0 : decode cX4_ageOn 0 = .ok (.aload_n 0, 1) := by decide +kernel
theorem dX4_ageOn_1 : decode cX4_ageOn 1 = .ok (.getfield 15, 3) := by decide +kernel
theorem dX4_ageOn_4 : decode cX4_ageOn 4 = .ok (.iload_n 1, 1) := by decide +kernel
theorem dX4_ageOn_5 : decode cX4_ageOn 5 = .ok (.bipush 48, 2) := by decide +kernel
theorem dX4_ageOn_7 : decode cX4_ageOn 7 = .ok (.idiv, 1) := by decide +kernel
theorem dX4_ageOn_8 : decode cX4_ageOn 8 = .ok (.iadd, 1) := by decide +kernel
theorem dX4_ageOn_9 : decode cX4_ageOn 9 = .ok (.bipush 30, 2) := by decide +kernel
theorem dX4_ageOn_11 : decode cX4_ageOn 11 = .ok (.irem, 1) := by decide +kernel
theorem dX4_ageOn_12 : decode cX4_ageOn 12 = .ok (.ireturn, 1) := by decide +kernel
theorem dX4_springOf_0 : decode cX4_springOf 0 = .ok (.iload_n 1, 1) := by decide +kernel
theorem dX4_springOf_1 : decode cX4_springOf 1 = .ok (.bipush 15, 2) := by decide +kernel
theorem dX4_springOf_3 : decode cX4_springOf 3 = .ok (.isub, 1) := by decide +kernel
theorem dX4_springOf_4 : decode cX4_springOf 4 = .ok (.invokestatic 22, 3) := by decide +kernel
theorem dX4_springOf_7 : decode cX4_springOf 7 = .ok (.istore_n 2, 1) := by decide +kernel
theorem dX4_springOf_8 : decode cX4_springOf 8 = .ok (.iload_n 1, 1) := by decide +kernel
theorem dX4_springOf_9 : decode cX4_springOf 9 = .ok (.bipush 30, 2) := by decide +kernel
theorem dX4_springOf_11 : decode cX4_springOf 11 = .ok (.iload_n 1, 1) := by decide +kernel
theorem dX4_springOf_12 : decode cX4_springOf 12 = .ok (.isub, 1) := by decide +kernel
theorem dX4_springOf_13 : decode cX4_springOf 13 = .ok (.invokestatic 28, 3) := by decide +kernel
theorem dX4_springOf_16 : decode cX4_springOf 16 = .ok (.iload_n 2, 1) := by decide +kernel
theorem dX4_springOf_17 : decode cX4_springOf 17 = .ok (.invokestatic 28, 3) := by decide +kernel
theorem dX4_springOf_20 : decode cX4_springOf 20 = .ok (.ireturn, 1) := by decide +kernel
set_option maxRecDepth 20000 in
theorem ggX4_rangeOn_X4_ageOn : GoodIn wsX4_rangeOn wsX4_ageOn := goodIn_r _ [7, 8, 20, 21, 22] (by decide +kernel) (by decide +kernel)
set_option maxRecDepth 20000 in
theorem gX4_rangeOn_X4_ageOn : GoodIn wsX4_rangeOn (wsV RX4 36 RX4 yX4_ageOn wsX4_ageOn) := goodIn_app (goodIn_of _ (by decide +kernel)) ggX4_rangeOn_X4_ageOn
set_option maxRecDepth 20000 in
theorem ggX4_rangeOn_X4_springOf : GoodIn wsX4_rangeOn wsX4_springOf := goodIn_r _ [12, 13, 14, 15, 16, 17, 18, 19] (by decide +kernel) (by decide +kernel)
set_option maxRecDepth 20000 in
theorem gX4_rangeOn_X4_springOf : GoodIn wsX4_rangeOn (wsV RX4 39 RX4 yX4_springOf wsX4_springOf) := goodIn_app (goodIn_of _ (by decide +kernel)) ggX4_rangeOn_X4_springOf
theorem dX4_rangeOn_0 : decode cX4_rangeOn 0 = .ok (.ldc2_w 32, 3) := by decide +kernel
theorem dX4_rangeOn_3 : decode cX4_rangeOn 3 = .ok (.ldc2_w 34, 3) := by decide +kernel
theorem dX4_rangeOn_6 : decode cX4_rangeOn 6 = .ok (.aload_n 0, 1) := by decide +kernel
theorem dX4_rangeOn_7 : decode cX4_rangeOn 7 = .ok (.aload_n 0, 1) := by decide +kernel
theorem dX4_rangeOn_8 : decode cX4_rangeOn 8 = .ok (.iload_n 1, 1) := by decide +kernel
theorem dX4_rangeOn_9 : decode cX4_rangeOn 9 = .ok (.invokevirtual 36, 3) := by decide +kernel
theorem dX4_rangeOn_12 : decode cX4_rangeOn 12 = .ok (.invokevirtual 39, 3) := by decide +kernel
theorem dX4_rangeOn_15 : decode cX4_rangeOn 15 = .ok (.i2d, 1) := by decide +kernel
theorem dX4_rangeOn_16 : decode cX4_rangeOn 16 = .ok (.dmul, 1) := by decide +kernel
theorem dX4_rangeOn_17 : decode cX4_rangeOn 17 = .ok (.dsub, 1) := by decide +kernel
theorem dX4_rangeOn_18 : decode cX4_rangeOn 18 = .ok (.dreturn, 1) := by decide +kernel
theorem dX4_phaseOn_0 : decode cX4_phaseOn 0 = .ok (.iload_n 1, 1) := by decide +kernel
theorem dX4_phaseOn_1 : decode cX4_phaseOn 1 = .ok (.iconst 4, 1) := by decide +kernel
theorem dX4_phaseOn_2 : decode cX4_phaseOn 2 = .ok (.imul, 1) := by decide +kernel
theorem dX4_phaseOn_3 : decode cX4_phaseOn 3 = .ok (.bipush 99, 2) := by decide +kernel
theorem dX4_phaseOn_5 : decode cX4_phaseOn 5 = .ok (.irem, 1) := by decide +kernel
theorem dX4_phaseOn_6 : decode cX4_phaseOn 6 = .ok (.i2d, 1) := by decide +kernel
theorem dX4_phaseOn_7 : decode cX4_phaseOn 7 = .ok (.ldc2_w 32, 3) := by decide +kernel
theorem dX4_phaseOn_10 : decode cX4_phaseOn 10 = .ok (.ddiv, 1) := by decide +kernel
theorem dX4_phaseOn_11 : decode cX4_phaseOn 11 = .ok (.dreturn, 1) := by decide +kernel
set_option maxRecDepth 20000 in
theorem ggX4_heightOn_X4_rangeOn : GoodIn wsX4_heightOn wsX4_rangeOn := goodIn_r _ [10, 11, 12, 13, 14, 15, 9, 16, 17, 18, 19, 20, 21, 22, 23, 24, 25, 26, 27, 28, 33, 34, 35] (by decide +kernel) (by decide +kernel)
set_option maxRecDepth 20000 in
theorem gX4_heightOn_X4_rangeOn : GoodIn wsX4_heightOn (wsV RX4 42 RX4 yX4_rangeOn wsX4_rangeOn) := goodIn_app (goodIn_of _ (by decide +kernel)) ggX4_heightOn_X4_rangeOn
set_option maxRecDepth 20000 in
theorem ggX4_heightOn_X4_phaseOn : GoodIn wsX4_heightOn wsX4_phaseOn := goodIn_r _ [32, 11] (by decide +kernel) (by decide +kernel)
set_option maxRecDepth 20000 in
theorem gX4_heightOn_X4_phaseOn : GoodIn wsX4_heightOn (wsV RX4 46 RX4 yX4_phaseOn wsX4_phaseOn) := goodIn_app (goodIn_of _ (by decide +kernel)) ggX4_heightOn_X4_phaseOn
theorem dX4_heightOn_0 : decode cX4_heightOn 0 = .ok (.aload_n 0, 1) := by decide +kernel
theorem dX4_heightOn_1 : decode cX4_heightOn 1 = .ok (.iload_n 1, 1) := by decide +kernel
theorem dX4_heightOn_2 : decode cX4_heightOn 2 = .ok (.invokevirtual 42, 3) := by decide +kernel
theorem dX4_heightOn_5 : decode cX4_heightOn 5 = .ok (.dstore_n 2, 1) := by decide +kernel
theorem dX4_heightOn_6 : decode cX4_heightOn 6 = .ok (.aload_n 0, 1) := by decide +kernel
theorem dX4_heightOn_7 : decode cX4_heightOn 7 = .ok (.iload_n 1, 1) := by decide +kernel
theorem dX4_heightOn_8 : decode cX4_heightOn 8 = .ok (.invokevirtual 46, 3) := by decide +kernel
theorem dX4_heightOn_11 : decode cX4_heightOn 11 = .ok (.dstore 4, 2) := by decide +kernel
theorem dX4_heightOn_13 : decode cX4_heightOn 13 = .ok (.dload 4, 2) := by decide +kernel
theorem dX4_heightOn_15 : decode cX4_heightOn 15 = .ok (.ldc2_w 49, 3) := by decide +kernel
theorem dX4_heightOn_18 : decode cX4_heightOn 18 = .ok (.dcmp .g, 1) := by decide +kernel
theorem dX4_heightOn_19 : decode cX4_heightOn 19 = .ok (.ifCond .ge 12, 3) := by decide +kernel
theorem dX4_heightOn_22 : decode cX4_heightOn 22 = .ok (.dload 4, 2) := by decide +kernel
theorem dX4_heightOn_24 : decode cX4_heightOn 24 = .ok (.ldc2_w 49, 3) := by decide +kernel
theorem dX4_heightOn_27 : decode cX4_heightOn 27 = .ok (.ddiv, 1) := by decide +kernel
theorem dX4_heightOn_28 : decode cX4_heightOn 28 = .ok (.goto 13, 3) := by decide +kernel
theorem dX4_heightOn_31 : decode cX4_heightOn 31 = .ok (.ldc2_w 51, 3) := by decide +kernel
theorem dX4_heightOn_34 : decode cX4_heightOn 34 = .ok (.dload 4, 2) := by decide +kernel
theorem dX4_heightOn_36 : decode cX4_heightOn 36 = .ok (.dsub, 1) := by decide +kernel
theorem dX4_heightOn_37 : decode cX4_heightOn 37 = .ok (.ldc2_w 53, 3) := by decide +kernel
theorem dX4_heightOn_40 : decode cX4_heightOn 40 = .ok (.ddiv, 1) := by decide +kernel
theorem dX4_heightOn_41 : decode cX4_heightOn 41 = .ok (.dstore 6, 2) := by decide +kernel
theorem dX4_heightOn_43 : decode cX4_heightOn 43 = .ok (.aload_n 0, 1) := by decide +kernel
theorem dX4_heightOn_44 : decode cX4_heightOn 44 = .ok (.getfield 18, 3) := by decide +kernel
theorem dX4_heightOn_47 : decode cX4_heightOn 47 = .ok (.dload_n 2, 1) := by decide +kernel
theorem dX4_heightOn_48 : decode cX4_heightOn 48 = .ok (.dload 6, 2) := by decide +kernel
theorem dX4_heightOn_50 : decode cX4_heightOn 50 = .ok (.dmul, 1) := by decide +kernel
theorem dX4_heightOn_51 : decode cX4_heightOn 51 = .ok (.dadd, 1) := by decide +kernel
theorem dX4_heightOn_52 : decode cX4_heightOn 52 = .ok (.dload_n 2, 1) := by decide +kernel
theorem dX4_heightOn_53 : decode cX4_heightOn 53 = .ok (.ldc2_w 55, 3) := by decide +kernel
theorem dX4_heightOn_56 : decode cX4_heightOn 56 = .ok (.dmul, 1) := by decide +kernel
theorem dX4_heightOn_57 : decode cX4_heightOn 57 = .ok (.dsub, 1) := by decide +kernel
theorem dX4_heightOn_58 : decode cX4_heightOn 58 = .ok (.dreturn, 1) := by decide +kernel
set_option maxRecDepth 20000 in
theorem ggX4_ticksToHigh_X4_phaseOn : GoodIn wsX4_ticksToHigh wsX4_phaseOn := goodIn_r _ [8, 9] (by decide +kernel) (by decide +kernel)
set_option maxRecDepth 20000 in
theorem gX4_ticksToHigh_X4_phaseOn : GoodIn wsX4_ticksToHigh (wsV RX4 46 RX4 yX4_phaseOn wsX4_phaseOn) := goodIn_app (goodIn_of _ (by decide +kernel)) ggX4_ticksToHigh_X4_phaseOn
theorem dX4_ticksToHigh_0 : decode cX4_ticksToHigh 0 = .ok (.iconst 0, 1) := by decide +kernel
theorem dX4_ticksToHigh_1 : decode cX4_ticksToHigh 1 = .ok (.istore_n 1, 1) := by decide +kernel
theorem dX4_ticksToHigh_2 : decode cX4_ticksToHigh 2 = .ok (.iload_n 1, 1) := by decide +kernel
theorem dX4_ticksToHigh_3 : decode cX4_ticksToHigh 3 = .ok (.bipush 25, 2) := by decide +kernel
theorem dX4_ticksToHigh_5 : decode cX4_ticksToHigh 5 = .ok (.if_icmp .ge 38, 3) := by decide +kernel
theorem dX4_ticksToHigh_8 : decode cX4_ticksToHigh 8 = .ok (.aload_n 0, 1) := by decide +kernel
theorem dX4_ticksToHigh_9 : decode cX4_ticksToHigh 9 = .ok (.aload_n 0, 1) := by decide +kernel
theorem dX4_ticksToHigh_10 : decode cX4_ticksToHigh 10 = .ok (.getfield 9, 3) := by decide +kernel
theorem dX4_ticksToHigh_13 : decode cX4_ticksToHigh 13 = .ok (.iload_n 1, 1) := by decide +kernel
theorem dX4_ticksToHigh_14 : decode cX4_ticksToHigh 14 = .ok (.iadd, 1) := by decide +kernel
theorem dX4_ticksToHigh_15 : decode cX4_ticksToHigh 15 = .ok (.invokevirtual 46, 3) := by decide +kernel
theorem dX4_ticksToHigh_18 : decode cX4_ticksToHigh 18 = .ok (.dstore_n 2, 1) := by decide +kernel
theorem dX4_ticksToHigh_19 : decode cX4_ticksToHigh 19 = .ok (.dload_n 2, 1) := by decide +kernel
theorem dX4_ticksToHigh_20 : decode cX4_ticksToHigh 20 = .ok (.ldc2_w 49, 3) := by decide +kernel
theorem dX4_ticksToHigh_23 : decode cX4_ticksToHigh 23 = .ok (.dcmp .l, 1) := by decide +kernel
theorem dX4_ticksToHigh_24 : decode cX4_ticksToHigh 24 = .ok (.ifCond .lt 13, 3) := by decide +kernel
theorem dX4_ticksToHigh_27 : decode cX4_ticksToHigh 27 = .ok (.dload_n 2, 1) := by decide +kernel
theorem dX4_ticksToHigh_28 : decode cX4_ticksToHigh 28 = .ok (.ldc2_w 57, 3) := by decide +kernel
theorem dX4_ticksToHigh_31 : decode cX4_ticksToHigh 31 = .ok (.dcmp .g, 1) := by decide +kernel
theorem dX4_ticksToHigh_32 : decode cX4_ticksToHigh 32 = .ok (.ifCond .ge 5, 3) := by decide +kernel
theorem dX4_ticksToHigh_35 : decode cX4_ticksToHigh 35 = .ok (.iload_n 1, 1) := by decide +kernel
theorem dX4_ticksToHigh_36 : decode cX4_ticksToHigh 36 = .ok (.ireturn, 1) := by decide +kernel
theorem dX4_ticksToHigh_37 : decode cX4_ticksToHigh 37 = .ok (.iinc 1 1, 3) := by decide +kernel
theorem dX4_ticksToHigh_40 : decode cX4_ticksToHigh 40 = .ok (.goto (-38), 3) := by decide +kernel
theorem dX4_ticksToHigh_43 : decode cX4_ticksToHigh 43 = .ok (.iconst (-1), 1) := by decide +kernel
theorem dX4_ticksToHigh_44 : decode cX4_ticksToHigh 44 = .ok (.ireturn, 1) := by decide +kernel
set_option maxRecDepth 20000 in
theorem ggX5_init_X1_init : GoodIn wsX5_init wsX1_init := goodIn_r _ [10, 11, 2, 3, 12, 13, 14, 15, 16, 17, 18, 19, 20, 21, 22, 23, 24, 25, 26, 27, 28, 29, 30, 31, 32, 33, 34, 35, 36, 37, 38, 39, 40, 41, 42, 43, 44, 45, 46, 47, 48, 49, 50, 51, 52, 53, 54, 68, 69, 70, 55, 56, 57, 58, 59, 60, 61, 71, 72, 73, 74, 75, 76, 77, 78, 79, 80, 81, 82, 83, 84, 85, 86, 87, 88] (by decide +kernel) (by decide +kernel)
set_option maxRecDepth 20000 in
theorem gX5_init_X1_init_n9 : GoodIn wsX5_init (wsX1_init) := ggX5_init_X1_init
theorem dX5_init_0 : decode cX5_init 0 = .ok (.aload_n 0, 1) := by decide +kernel
theorem dX5_init_1 : decode cX5_init 1 = .ok (.invokespecial 1, 3) := by decide +kernel
theorem dX5_init_4 : decode cX5_init 4 = .ok (.aload_n 0, 1) := by decide +kernel
theorem dX5_init_5 : decode cX5_init 5 = .ok (.new 7, 3) := by decide +kernel
theorem dX5_init_8 : decode cX5_init 8 = .ok (.dup, 1) := by decide +kernel
theorem dX5_init_9 : decode cX5_init 9 = .ok (.invokespecial 9, 3) := by decide +kernel
theorem dX5_init_12 : decode cX5_init 12 = .ok (.putfield 10, 3) := by decide +kernel
theorem dX5_init_15 : decode cX5_init 15 = .ok (.aload_n 0, 1) := by decide +kernel
theorem dX5_init_16 : decode cX5_init 16 = .ok (.new 7, 3) := by decide +kernel
theorem dX5_init_19 : decode cX5_init 19 = .ok (.dup, 1) := by decide +kernel
theorem dX5_init_20 : decode cX5_init 20 = .ok (.invokespecial 9, 3) := by decide +kernel
theorem dX5_init_23 : decode cX5_init 23 = .ok (.putfield 16, 3) := by decide +kernel
theorem dX5_init_26 : decode cX5_init 26 = .ok (.return_, 1) := by decide +kernel
set_option maxRecDepth 20000 in
theorem ggX5_moon_X5_isWithin : GoodIn wsX5_moon wsX5_isWithin := goodIn_r _ [10] (by decide +kernel) (by decide +kernel)
set_option maxRecDepth 20000 in
theorem gX5_moon_X5_isWithin : GoodIn wsX5_moon (va_wsS RX5 19 yX5_isWithin wsX5_isWithin) := goodIn_app (goodIn_of _ (by decide +kernel)) ggX5_moon_X5_isWithin
set_option maxRecDepth 20000 in
theorem ggX5_moon_X4_ageOn : GoodIn wsX5_moon wsX4_ageOn := goodIn_r _ [15, 16, 30, 31, 32] (by decide +kernel) (by decide +kernel)
set_option maxRecDepth 20000 in
theorem gX5_moon_X4_ageOn : GoodIn wsX5_moon (wsV RX5 43 RX4 yX4_ageOn wsX4_ageOn) := goodIn_app (goodIn_of _ (by decide +kernel)) ggX5_moon_X4_ageOn
theorem dX5_moon_0 : decode cX5_moon 0 = .ok (.iload_n 1, 1) := by decide +kernel
theorem dX5_moon_1 : decode cX5_moon 1 = .ok (.iconst 0, 1) := by decide +kernel
theorem dX5_moon_2 : decode cX5_moon 2 = .ok (.bipush 29, 2) := by decide +kernel
theorem dX5_moon_4 : decode cX5_moon 4 = .ok (.invokestatic 19, 3) := by decide +kernel
theorem dX5_moon_7 : decode cX5_moon 7 = .ok (.ifCond .ne 13, 3) := by decide +kernel
theorem dX5_moon_10 : decode cX5_moon 10 = .ok (.new 23, 3) := by decide +kernel
theorem dX5_moon_13 : decode cX5_moon 13 = .ok (.dup, 1) := by decide +kernel
theorem dX5_moon_14 : decode cX5_moon 14 = .ok (.ldc 25, 2) := by decide +kernel
theorem dX5_moon_16 : decode cX5_moon 16 = .ok (.invokespecial 27, 3) := by decide +kernel
theorem dX5_moon_19 : decode cX5_moon 19 = .ok (.athrow, 1) := by decide +kernel
theorem dX5_moon_20 : decode cX5_moon 20 = .ok (.aload_n 0, 1) := by decide +kernel
theorem dX5_moon_21 : decode cX5_moon 21 = .ok (.getfield 10, 3) := by decide +kernel
theorem dX5_moon_24 : decode cX5_moon 24 = .ok (.getfield 30, 3) := by decide +kernel
theorem dX5_moon_27 : decode cX5_moon 27 = .ok (.iload_n 1, 1) := by decide +kernel
theorem dX5_moon_28 : decode cX5_moon 28 = .ok (.putfield 34, 3) := by decide +kernel
theorem dX5_moon_31 : decode cX5_moon 31 = .ok (.aload_n 0, 1) := by decide +kernel
theorem dX5_moon_32 : decode cX5_moon 32 = .ok (.getfield 10, 3) := by decide +kernel
theorem dX5_moon_35 : decode cX5_moon 35 = .ok (.getfield 30, 3) := by decide +kernel
theorem dX5_moon_38 : decode cX5_moon 38 = .ok (.aload_n 0, 1) := by decide +kernel
theorem dX5_moon_39 : decode cX5_moon 39 = .ok (.getfield 10, 3) := by decide +kernel
theorem dX5_moon_42 : decode cX5_moon 42 = .ok (.getfield 30, 3) := by decide +kernel
theorem dX5_moon_45 : decode cX5_moon 45 = .ok (.getfield 40, 3) := by decide +kernel
theorem dX5_moon_48 : decode cX5_moon 48 = .ok (.invokevirtual 43, 3) := by decide +kernel
theorem dX5_moon_51 : decode cX5_moon 51 = .ok (.ireturn, 1) := by decide +kernel
set_option maxRecDepth 20000 in
theorem ggX5_surge_X5_isWithin : GoodIn wsX5_surge wsX5_isWithin := goodIn_r _ [11] (by decide +kernel) (by decide +kernel)
set_option maxRecDepth 20000 in
theorem gX5_surge_X5_isWithin : GoodIn wsX5_surge (va_wsS RX5 19 yX5_isWithin wsX5_isWithin) := goodIn_app (goodIn_of _ (by decide +kernel)) ggX5_surge_X5_isWithin
set_option maxRecDepth 20000 in
theorem ggX5_surge_X4_heightOn : GoodIn wsX5_surge wsX4_heightOn := goodIn_r _ [16, 17, 18, 19, 20, 21, 22, 23, 24, 15, 25, 26, 27, 28, 29, 30, 31, 32, 33, 34, 35, 36, 37, 38, 39, 40, 41, 42, 43, 44, 45, 46, 47, 61, 62, 63] (by decide +kernel) (by decide +kernel)
set_option maxRecDepth 20000 in
theorem gX5_surge_X4_heightOn : GoodIn wsX5_surge (wsV RX5 55 RX4 yX4_heightOn wsX4_heightOn) := goodIn_app (goodIn_of _ (by decide +kernel)) ggX5_surge_X4_heightOn
theorem dX5_surge_0 : decode cX5_surge 0 = .ok (.iload_n 1, 1) := by decide +kernel
theorem dX5_surge_1 : decode cX5_surge 1 = .ok (.bipush (-8), 2) := by decide +kernel
theorem dX5_surge_3 : decode cX5_surge 3 = .ok (.bipush 8, 2) := by decide +kernel
theorem dX5_surge_5 : decode cX5_surge 5 = .ok (.invokestatic 19, 3) := by decide +kernel
theorem dX5_surge_8 : decode cX5_surge 8 = .ok (.ifCond .ne 13, 3) := by decide +kernel
theorem dX5_surge_11 : decode cX5_surge 11 = .ok (.new 23, 3) := by decide +kernel
theorem dX5_surge_14 : decode cX5_surge 14 = .ok (.dup, 1) := by decide +kernel
theorem dX5_surge_15 : decode cX5_surge 15 = .ok (.ldc 47, 2) := by decide +kernel
theorem dX5_surge_17 : decode cX5_surge 17 = .ok (.invokespecial 27, 3) := by decide +kernel
theorem dX5_surge_20 : decode cX5_surge 20 = .ok (.athrow, 1) := by decide +kernel
theorem dX5_surge_21 : decode cX5_surge 21 = .ok (.aload_n 0, 1) := by decide +kernel
theorem dX5_surge_22 : decode cX5_surge 22 = .ok (.getfield 10, 3) := by decide +kernel
theorem dX5_surge_25 : decode cX5_surge 25 = .ok (.getfield 30, 3) := by decide +kernel
theorem dX5_surge_28 : decode cX5_surge 28 = .ok (.iload_n 1, 1) := by decide +kernel
theorem dX5_surge_29 : decode cX5_surge 29 = .ok (.i2d, 1) := by decide +kernel
theorem dX5_surge_30 : decode cX5_surge 30 = .ok (.ldc2_w 49, 3) := by decide +kernel
theorem dX5_surge_33 : decode cX5_surge 33 = .ok (.dmul, 1) := by decide +kernel
theorem dX5_surge_34 : decode cX5_surge 34 = .ok (.putfield 51, 3) := by decide +kernel
theorem dX5_surge_37 : decode cX5_surge 37 = .ok (.aload_n 0, 1) := by decide +kernel
theorem dX5_surge_38 : decode cX5_surge 38 = .ok (.getfield 10, 3) := by decide +kernel
theorem dX5_surge_41 : decode cX5_surge 41 = .ok (.getfield 30, 3) := by decide +kernel
theorem dX5_surge_44 : decode cX5_surge 44 = .ok (.aload_n 0, 1) := by decide +kernel
theorem dX5_surge_45 : decode cX5_surge 45 = .ok (.getfield 10, 3) := by decide +kernel
theorem dX5_surge_48 : decode cX5_surge 48 = .ok (.getfield 30, 3) := by decide +kernel
theorem dX5_surge_51 : decode cX5_surge 51 = .ok (.getfield 40, 3) := by decide +kernel
theorem dX5_surge_54 : decode cX5_surge 54 = .ok (.invokevirtual 55, 3) := by decide +kernel
theorem dX5_surge_57 : decode cX5_surge 57 = .ok (.dreturn, 1) := by decide +kernel
set_option maxRecDepth 20000 in
theorem ggX5_gates_X5_isWithin : GoodIn wsX5_gates wsX5_isWithin := goodIn_r _ [12] (by decide +kernel) (by decide +kernel)
set_option maxRecDepth 20000 in
theorem gX5_gates_X5_isWithin : GoodIn wsX5_gates (va_wsS RX5 19 yX5_isWithin wsX5_isWithin) := goodIn_app (goodIn_of _ (by decide +kernel)) ggX5_gates_X5_isWithin
theorem dX5_gates_0 : decode cX5_gates 0 = .ok (.iload_n 1, 1) := by decide +kernel
theorem dX5_gates_1 : decode cX5_gates 1 = .ok (.iconst 0, 1) := by decide +kernel
theorem dX5_gates_2 : decode cX5_gates 2 = .ok (.iconst 3, 1) := by decide +kernel
theorem dX5_gates_3 : decode cX5_gates 3 = .ok (.invokestatic 19, 3) := by decide +kernel
theorem dX5_gates_6 : decode cX5_gates 6 = .ok (.ifCond .ne 13, 3) := by decide +kernel
theorem dX5_gates_9 : decode cX5_gates 9 = .ok (.new 23, 3) := by decide +kernel
theorem dX5_gates_12 : decode cX5_gates 12 = .ok (.dup, 1) := by decide +kernel
theorem dX5_gates_13 : decode cX5_gates 13 = .ok (.ldc 59, 2) := by decide +kernel
theorem dX5_gates_15 : decode cX5_gates 15 = .ok (.invokespecial 27, 3) := by decide +kernel
theorem dX5_gates_18 : decode cX5_gates 18 = .ok (.athrow, 1) := by decide +kernel
theorem dX5_gates_19 : decode cX5_gates 19 = .ok (.aload_n 0, 1) := by decide +kernel
theorem dX5_gates_20 : decode cX5_gates 20 = .ok (.getfield 61, 3) := by decide +kernel
theorem dX5_gates_23 : decode cX5_gates 23 = .ok (.ifCond .eq 13, 3) := by decide +kernel
theorem dX5_gates_26 : decode cX5_gates 26 = .ok (.new 65, 3) := by decide +kernel
theorem dX5_gates_29 : decode cX5_gates 29 = .ok (.dup, 1) := by decide +kernel
theorem dX5_gates_30 : decode cX5_gates 30 = .ok (.ldc 67, 2) := by decide +kernel
theorem dX5_gates_32 : decode cX5_gates 32 = .ok (.invokespecial 69, 3) := by decide +kernel
theorem dX5_gates_35 : decode cX5_gates 35 = .ok (.athrow, 1) := by decide +kernel
theorem dX5_gates_36 : decode cX5_gates 36 = .ok (.aload_n 0, 1) := by decide +kernel
theorem dX5_gates_37 : decode cX5_gates 37 = .ok (.getfield 10, 3) := by decide +kernel
theorem dX5_gates_40 : decode cX5_gates 40 = .ok (.getfield 70, 3) := by decide +kernel
theorem dX5_gates_43 : decode cX5_gates 43 = .ok (.getfield 74, 3) := by decide +kernel
theorem dX5_gates_46 : decode cX5_gates 46 = .ok (.istore_n 2, 1) := by decide +kernel
theorem dX5_gates_47 : decode cX5_gates 47 = .ok (.aload_n 0, 1) := by decide +kernel
theorem dX5_gates_48 : decode cX5_gates 48 = .ok (.getfield 10, 3) := by decide +kernel
theorem dX5_gates_51 : decode cX5_gates 51 = .ok (.getfield 70, 3) := by decide +kernel
theorem dX5_gates_54 : decode cX5_gates 54 = .ok (.iload_n 1, 1) := by decide +kernel
theorem dX5_gates_55 : decode cX5_gates 55 = .ok (.putfield 74, 3) := by decide +kernel
theorem dX5_gates_58 : decode cX5_gates 58 = .ok (.iload_n 2, 1) := by decide +kernel
theorem dX5_gates_59 : decode cX5_gates 59 = .ok (.ireturn, 1) := by decide +kernel
set_option maxRecDepth 20000 in
theorem ggX5_sluice_X5_isWithin : GoodIn wsX5_sluice wsX5_isWithin := goodIn_r _ [9] (by decide +kernel) (by decide +kernel)
set_option maxRecDepth 20000 in
theorem gX5_sluice_X5_isWithin : GoodIn wsX5_sluice (va_wsS RX5 19 yX5_isWithin wsX5_isWithin) := goodIn_app (goodIn_of _ (by decide +kernel)) ggX5_sluice_X5_isWithin
theorem dX5_sluice_0 : decode cX5_sluice 0 = .ok (.iload_n 1, 1) := by decide +kernel
theorem dX5_sluice_1 : decode cX5_sluice 1 = .ok (.iconst 0, 1) := by decide +kernel
theorem dX5_sluice_2 : decode cX5_sluice 2 = .ok (.iconst 4, 1) := by decide +kernel
theorem dX5_sluice_3 : decode cX5_sluice 3 = .ok (.invokestatic 19, 3) := by decide +kernel
theorem dX5_sluice_6 : decode cX5_sluice 6 = .ok (.ifCond .ne 13, 3) := by decide +kernel
theorem dX5_sluice_9 : decode cX5_sluice 9 = .ok (.new 23, 3) := by decide +kernel
theorem dX5_sluice_12 : decode cX5_sluice 12 = .ok (.dup, 1) := by decide +kernel
theorem dX5_sluice_13 : decode cX5_sluice 13 = .ok (.ldc 79, 2) := by decide +kernel
theorem dX5_sluice_15 : decode cX5_sluice 15 = .ok (.invokespecial 27, 3) := by decide +kernel
theorem dX5_sluice_18 : decode cX5_sluice 18 = .ok (.athrow, 1) := by decide +kernel
theorem dX5_sluice_19 : decode cX5_sluice 19 = .ok (.aload_n 0, 1) := by decide +kernel
theorem dX5_sluice_20 : decode cX5_sluice 20 = .ok (.getfield 10, 3) := by decide +kernel
theorem dX5_sluice_23 : decode cX5_sluice 23 = .ok (.getfield 70, 3) := by decide +kernel
theorem dX5_sluice_26 : decode cX5_sluice 26 = .ok (.getfield 81, 3) := by decide +kernel
theorem dX5_sluice_29 : decode cX5_sluice 29 = .ok (.istore_n 2, 1) := by decide +kernel
theorem dX5_sluice_30 : decode cX5_sluice 30 = .ok (.aload_n 0, 1) := by decide +kernel
theorem dX5_sluice_31 : decode cX5_sluice 31 = .ok (.getfield 10, 3) := by decide +kernel
theorem dX5_sluice_34 : decode cX5_sluice 34 = .ok (.getfield 70, 3) := by decide +kernel
theorem dX5_sluice_37 : decode cX5_sluice 37 = .ok (.iload_n 1, 1) := by decide +kernel
theorem dX5_sluice_38 : decode cX5_sluice 38 = .ok (.putfield 81, 3) := by decide +kernel
theorem dX5_sluice_41 : decode cX5_sluice 41 = .ok (.iload_n 2, 1) := by decide +kernel
theorem dX5_sluice_42 : decode cX5_sluice 42 = .ok (.ireturn, 1) := by decide +kernel
theorem dX5_scour_0 : decode cX5_scour 0 = .ok (.aload_n 0, 1) := by decide +kernel
theorem dX5_scour_1 : decode cX5_scour 1 = .ok (.getfield 10, 3) := by decide +kernel
theorem dX5_scour_4 : decode cX5_scour 4 = .ok (.getfield 70, 3) := by decide +kernel
theorem dX5_scour_7 : decode cX5_scour 7 = .ok (.getfield 84, 3) := by decide +kernel
theorem dX5_scour_10 : decode cX5_scour 10 = .ok (.istore_n 2, 1) := by decide +kernel
theorem dX5_scour_11 : decode cX5_scour 11 = .ok (.aload_n 0, 1) := by decide +kernel
theorem dX5_scour_12 : decode cX5_scour 12 = .ok (.getfield 10, 3) := by decide +kernel
theorem dX5_scour_15 : decode cX5_scour 15 = .ok (.getfield 70, 3) := by decide +kernel
theorem dX5_scour_18 : decode cX5_scour 18 = .ok (.iload_n 1, 1) := by decide +kernel
theorem dX5_scour_19 : decode cX5_scour 19 = .ok (.putfield 84, 3) := by decide +kernel
theorem dX5_scour_22 : decode cX5_scour 22 = .ok (.iload_n 2, 1) := by decide +kernel
theorem dX5_scour_23 : decode cX5_scour 23 = .ok (.ireturn, 1) := by decide +kernel
set_option maxRecDepth 20000 in
theorem ggX5_hours_X5_isWithin : GoodIn wsX5_hours wsX5_isWithin := goodIn_r _ [9] (by decide +kernel) (by decide +kernel)
set_option maxRecDepth 20000 in
theorem gX5_hours_X5_isWithin : GoodIn wsX5_hours (va_wsS RX5 19 yX5_isWithin wsX5_isWithin) := goodIn_app (goodIn_of _ (by decide +kernel)) ggX5_hours_X5_isWithin
set_option maxRecDepth 20000 in
theorem ggX5_hours_X1_isAwake : GoodIn wsX5_hours wsX1_isAwake := goodIn_r _ [14, 15, 16, 17, 18, 19, 20, 21, 22, 23, 30, 31, 32, 33, 34, 35, 36, 37, 38, 39] (by decide +kernel) (by decide +kernel)
set_option maxRecDepth 20000 in
theorem gX5_hours_X1_isAwake : GoodIn wsX5_hours (wsV RX5 95 RX1 yX1_isAwake wsX1_isAwake) := goodIn_app (goodIn_of _ (by decide +kernel)) ggX5_hours_X1_isAwake
theorem dX5_hours_0 : decode cX5_hours 0 = .ok (.iload_n 1, 1) := by decide +kernel
theorem dX5_hours_1 : decode cX5_hours 1 = .ok (.iconst 0, 1) := by decide +kernel
theorem dX5_hours_2 : decode cX5_hours 2 = .ok (.bipush 47, 2) := by decide +kernel
theorem dX5_hours_4 : decode cX5_hours 4 = .ok (.invokestatic 19, 3) := by decide +kernel
theorem dX5_hours_7 : decode cX5_hours 7 = .ok (.ifCond .eq 13, 3) := by decide +kernel
theorem dX5_hours_10 : decode cX5_hours 10 = .ok (.iload_n 2, 1) := by decide +kernel
theorem dX5_hours_11 : decode cX5_hours 11 = .ok (.iconst 0, 1) := by decide +kernel
theorem dX5_hours_12 : decode cX5_hours 12 = .ok (.bipush 47, 2) := by decide +kernel
theorem dX5_hours_14 : decode cX5_hours 14 = .ok (.invokestatic 19, 3) := by decide +kernel
theorem dX5_hours_17 : decode cX5_hours 17 = .ok (.ifCond .ne 13, 3) := by decide +kernel
theorem dX5_hours_20 : decode cX5_hours 20 = .ok (.new 23, 3) := by decide +kernel
theorem dX5_hours_23 : decode cX5_hours 23 = .ok (.dup, 1) := by decide +kernel
theorem dX5_hours_24 : decode cX5_hours 24 = .ok (.ldc 87, 2) := by decide +kernel
theorem dX5_hours_26 : decode cX5_hours 26 = .ok (.invokespecial 27, 3) := by decide +kernel
theorem dX5_hours_29 : decode cX5_hours 29 = .ok (.athrow, 1) := by decide +kernel
theorem dX5_hours_30 : decode cX5_hours 30 = .ok (.aload_n 0, 1) := by decide +kernel
theorem dX5_hours_31 : decode cX5_hours 31 = .ok (.getfield 10, 3) := by decide +kernel
theorem dX5_hours_34 : decode cX5_hours 34 = .ok (.iload_n 1, 1) := by decide +kernel
theorem dX5_hours_35 : decode cX5_hours 35 = .ok (.putfield 89, 3) := by decide +kernel
theorem dX5_hours_38 : decode cX5_hours 38 = .ok (.aload_n 0, 1) := by decide +kernel
theorem dX5_hours_39 : decode cX5_hours 39 = .ok (.getfield 10, 3) := by decide +kernel
theorem dX5_hours_42 : decode cX5_hours 42 = .ok (.iload_n 2, 1) := by decide +kernel
theorem dX5_hours_43 : decode cX5_hours 43 = .ok (.putfield 92, 3) := by decide +kernel
theorem dX5_hours_46 : decode cX5_hours 46 = .ok (.aload_n 0, 1) := by decide +kernel
theorem dX5_hours_47 : decode cX5_hours 47 = .ok (.getfield 10, 3) := by decide +kernel
theorem dX5_hours_50 : decode cX5_hours 50 = .ok (.invokevirtual 95, 3) := by decide +kernel
theorem dX5_hours_53 : decode cX5_hours 53 = .ok (.ireturn, 1) := by decide +kernel
theorem dX5_lock_0 : decode cX5_lock 0 = .ok (.aload_n 0, 1) := by decide +kernel
theorem dX5_lock_1 : decode cX5_lock 1 = .ok (.getfield 61, 3) := by decide +kernel
theorem dX5_lock_4 : decode cX5_lock 4 = .ok (.istore_n 2, 1) := by decide +kernel
theorem dX5_lock_5 : decode cX5_lock 5 = .ok (.aload_n 0, 1) := by decide +kernel
theorem dX5_lock_6 : decode cX5_lock 6 = .ok (.iload_n 1, 1) := by decide +kernel
theorem dX5_lock_7 : decode cX5_lock 7 = .ok (.putfield 61, 3) := by decide +kernel
theorem dX5_lock_10 : decode cX5_lock 10 = .ok (.iload_n 2, 1) := by decide +kernel
theorem dX5_lock_11 : decode cX5_lock 11 = .ok (.ireturn, 1) := by decide +kernel
set_option maxRecDepth 20000 in
theorem ggX5_pair_X2_lay : GoodIn wsX5_pair wsX2_lay := goodIn_r _ [10, 11, 12, 26, 27, 28, 29, 30] (by decide +kernel) (by decide +kernel)
set_option maxRecDepth 20000 in
theorem gX5_pair_X2_lay : GoodIn wsX5_pair (wsV RX5 113 RX2 yX2_lay wsX2_lay) := goodIn_app (goodIn_of _ (by decide +kernel)) ggX5_pair_X2_lay
theorem dX5_pair_0 : decode cX5_pair 0 = .ok (.aload_n 0, 1) := by decide +kernel
theorem dX5_pair_1 : decode cX5_pair 1 = .ok (.getfield 10, 3) := by decide +kernel
theorem dX5_pair_4 : decode cX5_pair 4 = .ok (.getfield 102, 3) := by decide +kernel
theorem dX5_pair_7 : decode cX5_pair 7 = .ok (.getfield 106, 3) := by decide +kernel
theorem dX5_pair_10 : decode cX5_pair 10 = .ok (.iconst 3, 1) := by decide +kernel
theorem dX5_pair_11 : decode cX5_pair 11 = .ok (.if_icmp .lt 13, 3) := by decide +kernel
theorem dX5_pair_14 : decode cX5_pair 14 = .ok (.new 65, 3) := by decide +kernel
theorem dX5_pair_17 : decode cX5_pair 17 = .ok (.dup, 1) := by decide +kernel
theorem dX5_pair_18 : decode cX5_pair 18 = .ok (.ldc 111, 2) := by decide +kernel
theorem dX5_pair_20 : decode cX5_pair 20 = .ok (.invokespecial 69, 3) := by decide +kernel
theorem dX5_pair_23 : decode cX5_pair 23 = .ok (.athrow, 1) := by decide +kernel
theorem dX5_pair_24 : decode cX5_pair 24 = .ok (.aload_n 0, 1) := by decide +kernel
theorem dX5_pair_25 : decode cX5_pair 25 = .ok (.getfield 10, 3) := by decide +kernel
theorem dX5_pair_28 : decode cX5_pair 28 = .ok (.getfield 102, 3) := by decide +kernel
theorem dX5_pair_31 : decode cX5_pair 31 = .ok (.invokevirtual 113, 3) := by decide +kernel
theorem dX5_pair_34 : decode cX5_pair 34 = .ok (.ireturn, 1) := by decide +kernel
set_option maxRecDepth 20000 in
theorem ggX5_lot_X5_isWithin : GoodIn wsX5_lot wsX5_isWithin := goodIn_r _ [12] (by decide +kernel) (by decide +kernel)
set_option maxRecDepth 20000 in
theorem gX5_lot_X5_isWithin : GoodIn wsX5_lot (va_wsS RX5 19 yX5_isWithin wsX5_isWithin) := goodIn_app (goodIn_of _ (by decide +kernel)) ggX5_lot_X5_isWithin
set_option maxRecDepth 20000 in
theorem ggX5_lot_X4_today : GoodIn wsX5_lot wsX4_today := goodIn_r _ [17, 18, 51, 52, 53] (by decide +kernel) (by decide +kernel)
set_option maxRecDepth 20000 in
theorem gX5_lot_X4_today : GoodIn wsX5_lot (wsV RX5 128 RX4 yX4_today wsX4_today) := goodIn_app (goodIn_of _ (by decide +kernel)) ggX5_lot_X4_today
set_option maxRecDepth 20000 in
theorem ggX5_lot_X0_bring : GoodIn wsX5_lot wsX0_bring := goodIn_r _ [23, 24, 25, 26, 27, 28, 29, 30, 44, 45, 46, 47, 48, 49, 50] (by decide +kernel) (by decide +kernel)
set_option maxRecDepth 20000 in
theorem gX5_lot_X0_bring : GoodIn wsX5_lot (wsV RX5 131 RX0 yX0_bring wsX0_bring) := goodIn_app (goodIn_of _ (by decide +kernel)) ggX5_lot_X0_bring
theorem dX5_lot_0 : decode cX5_lot 0 = .ok (.iload_n 1, 1) := by decide +kernel
theorem dX5_lot_1 : decode cX5_lot 1 = .ok (.iconst 0, 1) := by decide +kernel
theorem dX5_lot_2 : decode cX5_lot 2 = .ok (.iconst 3, 1) := by decide +kernel
theorem dX5_lot_3 : decode cX5_lot 3 = .ok (.invokestatic 19, 3) := by decide +kernel
theorem dX5_lot_6 : decode cX5_lot 6 = .ok (.ifCond .eq 33, 3) := by decide +kernel
theorem dX5_lot_9 : decode cX5_lot 9 = .ok (.iload_n 2, 1) := by decide +kernel
theorem dX5_lot_10 : decode cX5_lot 10 = .ok (.iconst 0, 1) := by decide +kernel
theorem dX5_lot_11 : decode cX5_lot 11 = .ok (.iconst 2, 1) := by decide +kernel
theorem dX5_lot_12 : decode cX5_lot 12 = .ok (.invokestatic 19, 3) := by decide +kernel
theorem dX5_lot_15 : decode cX5_lot 15 = .ok (.ifCond .eq 24, 3) := by decide +kernel
theorem dX5_lot_18 : decode cX5_lot 18 = .ok (.iload_n 3, 1) := by decide +kernel
theorem dX5_lot_19 : decode cX5_lot 19 = .ok (.iconst 1, 1) := by decide +kernel
theorem dX5_lot_20 : decode cX5_lot 20 = .ok (.bipush 60, 2) := by decide +kernel
theorem dX5_lot_22 : decode cX5_lot 22 = .ok (.invokestatic 19, 3) := by decide +kernel
theorem dX5_lot_25 : decode cX5_lot 25 = .ok (.ifCond .eq 14, 3) := by decide +kernel
theorem dX5_lot_28 : decode cX5_lot 28 = .ok (.iload 4, 2) := by decide +kernel
theorem dX5_lot_30 : decode cX5_lot 30 = .ok (.iconst 0, 1) := by decide +kernel
theorem dX5_lot_31 : decode cX5_lot 31 = .ok (.bipush 30, 2) := by decide +kernel
theorem dX5_lot_33 : decode cX5_lot 33 = .ok (.invokestatic 19, 3) := by decide +kernel
theorem dX5_lot_36 : decode cX5_lot 36 = .ok (.ifCond .ne 13, 3) := by decide +kernel
theorem dX5_lot_39 : decode cX5_lot 39 = .ok (.new 23, 3) := by decide +kernel
theorem dX5_lot_42 : decode cX5_lot 42 = .ok (.dup, 1) := by decide +kernel
theorem dX5_lot_43 : decode cX5_lot 43 = .ok (.ldc 117, 2) := by decide +kernel
theorem dX5_lot_45 : decode cX5_lot 45 = .ok (.invokespecial 27, 3) := by decide +kernel
theorem dX5_lot_48 : decode cX5_lot 48 = .ok (.athrow, 1) := by decide +kernel
theorem dX5_lot_49 : decode cX5_lot 49 = .ok (.aload_n 0, 1) := by decide +kernel
theorem dX5_lot_50 : decode cX5_lot 50 = .ok (.getfield 10, 3) := by decide +kernel
theorem dX5_lot_53 : decode cX5_lot 53 = .ok (.getfield 119, 3) := by decide +kernel
theorem dX5_lot_56 : decode cX5_lot 56 = .ok (.getfield 123, 3) := by decide +kernel
theorem dX5_lot_59 : decode cX5_lot 59 = .ok (.bipush 10, 2) := by decide +kernel
theorem dX5_lot_61 : decode cX5_lot 61 = .ok (.if_icmp .lt 13, 3) := by decide +kernel
theorem dX5_lot_64 : decode cX5_lot 64 = .ok (.new 65, 3) := by decide +kernel
theorem dX5_lot_67 : decode cX5_lot 67 = .ok (.dup, 1) := by decide +kernel
theorem dX5_lot_68 : decode cX5_lot 68 = .ok (.ldc 126, 2) := by decide +kernel
theorem dX5_lot_70 : decode cX5_lot 70 = .ok (.invokespecial 69, 3) := by decide +kernel
theorem dX5_lot_73 : decode cX5_lot 73 = .ok (.athrow, 1) := by decide +kernel
theorem dX5_lot_74 : decode cX5_lot 74 = .ok (.aload_n 0, 1) := by decide +kernel
theorem dX5_lot_75 : decode cX5_lot 75 = .ok (.getfield 10, 3) := by decide +kernel
theorem dX5_lot_78 : decode cX5_lot 78 = .ok (.getfield 119, 3) := by decide +kernel
theorem dX5_lot_81 : decode cX5_lot 81 = .ok (.iload_n 1, 1) := by decide +kernel
theorem dX5_lot_82 : decode cX5_lot 82 = .ok (.iload_n 2, 1) := by decide +kernel
theorem dX5_lot_83 : decode cX5_lot 83 = .ok (.iload_n 3, 1) := by decide +kernel
theorem dX5_lot_84 : decode cX5_lot 84 = .ok (.aload_n 0, 1) := by decide +kernel
theorem dX5_lot_85 : decode cX5_lot 85 = .ok (.getfield 10, 3) := by decide +kernel
theorem dX5_lot_88 : decode cX5_lot 88 = .ok (.getfield 30, 3) := by decide +kernel
theorem dX5_lot_91 : decode cX5_lot 91 = .ok (.invokevirtual 128, 3) := by decide +kernel
theorem dX5_lot_94 : decode cX5_lot 94 = .ok (.iload 4, 2) := by decide +kernel
theorem dX5_lot_96 : decode cX5_lot 96 = .ok (.iadd, 1) := by decide +kernel
theorem dX5_lot_97 : decode cX5_lot 97 = .ok (.invokevirtual 131, 3) := by decide +kernel
theorem dX5_lot_100 : decode cX5_lot 100 = .ok (.ireturn, 1) := by decide +kernel
set_option maxRecDepth 20000 in
theorem ggX5_feed_X2_has : GoodIn wsX5_feed wsX2_has := goodIn_r _ [14, 15, 53, 54, 55, 56, 57] (by decide +kernel) (by decide +kernel)
set_option maxRecDepth 20000 in
theorem gX5_feed_X2_has : GoodIn wsX5_feed (wsV RX5 135 RX2 yX2_has wsX2_has) := goodIn_app (goodIn_of _ (by decide +kernel)) ggX5_feed_X2_has
set_option maxRecDepth 20000 in
theorem ggX5_feed_X0_has : GoodIn wsX5_feed wsX0_has := goodIn_r _ [20, 21, 46, 47, 48, 49, 50, 51, 52] (by decide +kernel) (by decide +kernel)
set_option maxRecDepth 20000 in
theorem gX5_feed_X0_has : GoodIn wsX5_feed (wsV RX5 139 RX0 yX0_has wsX0_has) := goodIn_app (goodIn_of _ (by decide +kernel)) ggX5_feed_X0_has
set_option maxRecDepth 20000 in
theorem ggX5_feed_X2_isFree : GoodIn wsX5_feed wsX2_isFree := goodIn_r _ [25, 26, 27, 53, 54, 55, 56, 57] (by decide +kernel) (by decide +kernel)
set_option maxRecDepth 20000 in
theorem gX5_feed_X2_isFree : GoodIn wsX5_feed (wsV RX5 149 RX2 yX2_isFree wsX2_isFree) := goodIn_app (goodIn_of _ (by decide +kernel)) ggX5_feed_X2_isFree
set_option maxRecDepth 20000 in
theorem ggX5_feed_X0_countOf : GoodIn wsX5_feed wsX0_countOf := goodIn_r _ [31, 21, 32, 46, 47, 48, 49, 50, 51, 52] (by decide +kernel) (by decide +kernel)
set_option maxRecDepth 20000 in
theorem gX5_feed_X0_countOf : GoodIn wsX5_feed (wsV RX5 157 RX0 yX0_countOf wsX0_countOf) := goodIn_app (goodIn_of _ (by decide +kernel)) ggX5_feed_X0_countOf
theorem dX5_feed_0 : decode cX5_feed 0 = .ok (.aload_n 0, 1) := by decide +kernel
theorem dX5_feed_1 : decode cX5_feed 1 = .ok (.getfield 10, 3) := by decide +kernel
theorem dX5_feed_4 : decode cX5_feed 4 = .ok (.getfield 102, 3) := by decide +kernel
theorem dX5_feed_7 : decode cX5_feed 7 = .ok (.iload_n 1, 1) := by decide +kernel
theorem dX5_feed_8 : decode cX5_feed 8 = .ok (.invokevirtual 135, 3) := by decide +kernel
theorem dX5_feed_11 : decode cX5_feed 11 = .ok (.ifCond .eq 17, 3) := by decide +kernel
theorem dX5_feed_14 : decode cX5_feed 14 = .ok (.aload_n 0, 1) := by decide +kernel
theorem dX5_feed_15 : decode cX5_feed 15 = .ok (.getfield 10, 3) := by decide +kernel
theorem dX5_feed_18 : decode cX5_feed 18 = .ok (.getfield 119, 3) := by decide +kernel
theorem dX5_feed_21 : decode cX5_feed 21 = .ok (.iload_n 2, 1) := by decide +kernel
theorem dX5_feed_22 : decode cX5_feed 22 = .ok (.invokevirtual 139, 3) := by decide +kernel
theorem dX5_feed_25 : decode cX5_feed 25 = .ok (.ifCond .ne 13, 3) := by decide +kernel
theorem dX5_feed_28 : decode cX5_feed 28 = .ok (.new 140, 3) := by decide +kernel
theorem dX5_feed_31 : decode cX5_feed 31 = .ok (.dup, 1) := by decide +kernel
theorem dX5_feed_32 : decode cX5_feed 32 = .ok (.ldc 142, 2) := by decide +kernel
theorem dX5_feed_34 : decode cX5_feed 34 = .ok (.invokespecial 144, 3) := by decide +kernel
theorem dX5_feed_37 : decode cX5_feed 37 = .ok (.athrow, 1) := by decide +kernel
theorem dX5_feed_38 : decode cX5_feed 38 = .ok (.aload_n 0, 1) := by decide +kernel
theorem dX5_feed_39 : decode cX5_feed 39 = .ok (.getfield 10, 3) := by decide +kernel
theorem dX5_feed_42 : decode cX5_feed 42 = .ok (.getfield 119, 3) := by decide +kernel
theorem dX5_feed_45 : decode cX5_feed 45 = .ok (.getfield 145, 3) := by decide +kernel
theorem dX5_feed_48 : decode cX5_feed 48 = .ok (.iload_n 2, 1) := by decide +kernel
theorem dX5_feed_49 : decode cX5_feed 49 = .ok (.iaload, 1) := by decide +kernel
theorem dX5_feed_50 : decode cX5_feed 50 = .ok (.ifCond .ne 17, 3) := by decide +kernel
theorem dX5_feed_53 : decode cX5_feed 53 = .ok (.aload_n 0, 1) := by decide +kernel
theorem dX5_feed_54 : decode cX5_feed 54 = .ok (.getfield 10, 3) := by decide +kernel
theorem dX5_feed_57 : decode cX5_feed 57 = .ok (.getfield 102, 3) := by decide +kernel
theorem dX5_feed_60 : decode cX5_feed 60 = .ok (.iload_n 1, 1) := by decide +kernel
theorem dX5_feed_61 : decode cX5_feed 61 = .ok (.invokevirtual 149, 3) := by decide +kernel
theorem dX5_feed_64 : decode cX5_feed 64 = .ok (.ifCond .ne 13, 3) := by decide +kernel
theorem dX5_feed_67 : decode cX5_feed 67 = .ok (.new 65, 3) := by decide +kernel
theorem dX5_feed_70 : decode cX5_feed 70 = .ok (.dup, 1) := by decide +kernel
theorem dX5_feed_71 : decode cX5_feed 71 = .ok (.ldc 152, 2) := by decide +kernel
theorem dX5_feed_73 : decode cX5_feed 73 = .ok (.invokespecial 69, 3) := by decide +kernel
theorem dX5_feed_76 : decode cX5_feed 76 = .ok (.athrow, 1) := by decide +kernel
theorem dX5_feed_77 : decode cX5_feed 77 = .ok (.aload_n 0, 1) := by decide +kernel
theorem dX5_feed_78 : decode cX5_feed 78 = .ok (.getfield 10, 3) := by decide +kernel
theorem dX5_feed_81 : decode cX5_feed 81 = .ok (.getfield 102, 3) := by decide +kernel
theorem dX5_feed_84 : decode cX5_feed 84 = .ok (.getfield 154, 3) := by decide +kernel
theorem dX5_feed_87 : decode cX5_feed 87 = .ok (.iload_n 1, 1) := by decide +kernel
theorem dX5_feed_88 : decode cX5_feed 88 = .ok (.iload_n 2, 1) := by decide +kernel
theorem dX5_feed_89 : decode cX5_feed 89 = .ok (.iastore, 1) := by decide +kernel
theorem dX5_feed_90 : decode cX5_feed 90 = .ok (.aload_n 0, 1) := by decide +kernel
theorem dX5_feed_91 : decode cX5_feed 91 = .ok (.getfield 10, 3) := by decide +kernel
theorem dX5_feed_94 : decode cX5_feed 94 = .ok (.getfield 119, 3) := by decide +kernel
theorem dX5_feed_97 : decode cX5_feed 97 = .ok (.getfield 145, 3) := by decide +kernel
theorem dX5_feed_100 : decode cX5_feed 100 = .ok (.iload_n 2, 1) := by decide +kernel
theorem dX5_feed_101 : decode cX5_feed 101 = .ok (.iconst 1, 1) := by decide +kernel
theorem dX5_feed_102 : decode cX5_feed 102 = .ok (.iastore, 1) := by decide +kernel
theorem dX5_feed_103 : decode cX5_feed 103 = .ok (.aload_n 0, 1) := by decide +kernel
theorem dX5_feed_104 : decode cX5_feed 104 = .ok (.getfield 10, 3) := by decide +kernel
theorem dX5_feed_107 : decode cX5_feed 107 = .ok (.getfield 119, 3) := by decide +kernel
theorem dX5_feed_110 : decode cX5_feed 110 = .ok (.iconst 0, 1) := by decide +kernel
theorem dX5_feed_111 : decode cX5_feed 111 = .ok (.invokevirtual 157, 3) := by decide +kernel
theorem dX5_feed_114 : decode cX5_feed 114 = .ok (.ireturn, 1) := by decide +kernel
set_option maxRecDepth 20000 in
theorem ggX5_take_X2_has : GoodIn wsX5_take wsX2_has := goodIn_r _ [14, 15, 35, 36, 37, 38, 39] (by decide +kernel) (by decide +kernel)
set_option maxRecDepth 20000 in
theorem gX5_take_X2_has : GoodIn wsX5_take (wsV RX5 135 RX2 yX2_has wsX2_has) := goodIn_app (goodIn_of _ (by decide +kernel)) ggX5_take_X2_has
set_option maxRecDepth 20000 in
theorem ggX5_take_X0_has : GoodIn wsX5_take wsX0_has := goodIn_r _ [20, 21, 40, 41, 42, 43, 44, 45, 46] (by decide +kernel) (by decide +kernel)
set_option maxRecDepth 20000 in
theorem gX5_take_X0_has : GoodIn wsX5_take (wsV RX5 139 RX0 yX0_has wsX0_has) := goodIn_app (goodIn_of _ (by decide +kernel)) ggX5_take_X0_has
theorem dX5_take_0 : decode cX5_take 0 = .ok (.aload_n 0, 1) := by decide +kernel
theorem dX5_take_1 : decode cX5_take 1 = .ok (.getfield 10, 3) := by decide +kernel
theorem dX5_take_4 : decode cX5_take 4 = .ok (.getfield 102, 3) := by decide +kernel
theorem dX5_take_7 : decode cX5_take 7 = .ok (.iload_n 1, 1) := by decide +kernel
theorem dX5_take_8 : decode cX5_take 8 = .ok (.invokevirtual 135, 3) := by decide +kernel
theorem dX5_take_11 : decode cX5_take 11 = .ok (.ifCond .ne 13, 3) := by decide +kernel
theorem dX5_take_14 : decode cX5_take 14 = .ok (.new 140, 3) := by decide +kernel
