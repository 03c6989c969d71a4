theorem dX0_init_0 : decode cX0_init 0 = .ok (.aload_n 0, 1) := by decide +kernel
theorem dX0_init_1 : decode cX0_init 1 = .ok (.invokespecial 3, 3) := by decide +kernel
theorem dX0_init_4 : decode cX0_init 4 = .ok (.aload_n 0, 1) := by decide +kernel
theorem dX0_init_5 : decode cX0_init 5 = .ok (.bipush 10, 2) := by decide +kernel
theorem dX0_init_7 : decode cX0_init 7 = .ok (.newarray .int, 2) := by decide +kernel
theorem dX0_init_9 : decode cX0_init 9 = .ok (.putfield 9, 3) := by decide +kernel
theorem dX0_init_12 : decode cX0_init 12 = .ok (.aload_n 0, 1) := by decide +kernel
theorem dX0_init_13 : decode cX0_init 13 = .ok (.bipush 10, 2) := by decide +kernel
theorem dX0_init_15 : decode cX0_init 15 = .ok (.newarray .int, 2) := by decide +kernel
theorem dX0_init_17 : decode cX0_init 17 = .ok (.putfield 15, 3) := by decide +kernel
theorem dX0_init_20 : decode cX0_init 20 = .ok (.aload_n 0, 1) := by decide +kernel
theorem dX0_init_21 : decode cX0_init 21 = .ok (.bipush 10, 2) := by decide +kernel
theorem dX0_init_23 : decode cX0_init 23 = .ok (.newarray .int, 2) := by decide +kernel
theorem dX0_init_25 : decode cX0_init 25 = .ok (.putfield 18, 3) := by decide +kernel
theorem dX0_init_28 : decode cX0_init 28 = .ok (.aload_n 0, 1) := by decide +kernel
theorem dX0_init_29 : decode cX0_init 29 = .ok (.bipush 10, 2) := by decide +kernel
theorem dX0_init_31 : decode cX0_init 31 = .ok (.newarray .int, 2) := by decide +kernel
theorem dX0_init_33 : decode cX0_init 33 = .ok (.putfield 21, 3) := by decide +kernel
theorem dX0_init_36 : decode cX0_init 36 = .ok (.aload_n 0, 1) := by decide +kernel
theorem dX0_init_37 : decode cX0_init 37 = .ok (.bipush 10, 2) := by decide +kernel
theorem dX0_init_39 : decode cX0_init 39 = .ok (.newarray .int, 2) := by decide +kernel
theorem dX0_init_41 : decode cX0_init 41 = .ok (.putfield 24, 3) := by decide +kernel
theorem dX0_init_44 : decode cX0_init 44 = .ok (.aload_n 0, 1) := by decide +kernel
theorem dX0_init_45 : decode cX0_init 45 = .ok (.bipush 10, 2) := by decide +kernel
theorem dX0_init_47 : decode cX0_init 47 = .ok (.newarray .double, 2) := by decide +kernel
theorem dX0_init_49 : decode cX0_init 49 = .ok (.putfield 27, 3) := by decide +kernel
theorem dX0_init_52 : decode cX0_init 52 = .ok (.return_, 1) := by decide +kernel
theorem dX0_copyFrom_0 : decode cX0_copyFrom 0 = .ok (.aload_n 1, 1) := by decide +kernel
theorem dX0_copyFrom_1 : decode cX0_copyFrom 1 = .ok (.getfield 9, 3) := by decide +kernel
theorem dX0_copyFrom_4 : decode cX0_copyFrom 4 = .ok (.iconst 0, 1) := by decide +kernel
theorem dX0_copyFrom_5 : decode cX0_copyFrom 5 = .ok (.aload_n 0, 1) := by decide +kernel
theorem dX0_copyFrom_6 : decode cX0_copyFrom 6 = .ok (.getfield 9, 3) := by decide +kernel
theorem dX0_copyFrom_9 : decode cX0_copyFrom 9 = .ok (.iconst 0, 1) := by decide +kernel
theorem dX0_copyFrom_10 : decode cX0_copyFrom 10 = .ok (.bipush 10, 2) := by decide +kernel
theorem dX0_copyFrom_12 : decode cX0_copyFrom 12 = .ok (.invokestatic 31, 3) := by decide +kernel
theorem dX0_copyFrom_15 : decode cX0_copyFrom 15 = .ok (.aload_n 1, 1) := by decide +kernel
theorem dX0_copyFrom_16 : decode cX0_copyFrom 16 = .ok (.getfield 15, 3) := by decide +kernel
theorem dX0_copyFrom_19 : decode cX0_copyFrom 19 = .ok (.iconst 0, 1) := by decide +kernel
theorem dX0_copyFrom_20 : decode cX0_copyFrom 20 = .ok (.aload_n 0, 1) := by decide +kernel
theorem dX0_copyFrom_21 : decode cX0_copyFrom 21 = .ok (.getfield 15, 3) := by decide +kernel
theorem dX0_copyFrom_24 : decode cX0_copyFrom 24 = .ok (.iconst 0, 1) := by decide +kernel
theorem dX0_copyFrom_25 : decode cX0_copyFrom 25 = .ok (.bipush 10, 2) := by decide +kernel
theorem dX0_copyFrom_27 : decode cX0_copyFrom 27 = .ok (.invokestatic 31, 3) := by decide +kernel
theorem dX0_copyFrom_30 : decode cX0_copyFrom 30 = .ok (.aload_n 1, 1) := by decide +kernel
theorem dX0_copyFrom_31 : decode cX0_copyFrom 31 = .ok (.getfield 18, 3) := by decide +kernel
theorem dX0_copyFrom_34 : decode cX0_copyFrom 34 = .ok (.iconst 0, 1) := by decide +kernel
theorem dX0_copyFrom_35 : decode cX0_copyFrom 35 = .ok (.aload_n 0, 1) := by decide +kernel
theorem dX0_copyFrom_36 : decode cX0_copyFrom 36 = .ok (.getfield 18, 3) := by decide +kernel
theorem dX0_copyFrom_39 : decode cX0_copyFrom 39 = .ok (.iconst 0, 1) := by decide +kernel
theorem dX0_copyFrom_40 : decode cX0_copyFrom 40 = .ok (.bipush 10, 2) := by decide +kernel
theorem dX0_copyFrom_42 : decode cX0_copyFrom 42 = .ok (.invokestatic 31, 3) := by decide +kernel
theorem dX0_copyFrom_45 : decode cX0_copyFrom 45 = .ok (.aload_n 1, 1) := by decide +kernel
theorem dX0_copyFrom_46 : decode cX0_copyFrom 46 = .ok (.getfield 21, 3) := by decide +kernel
theorem dX0_copyFrom_49 : decode cX0_copyFrom 49 = .ok (.iconst 0, 1) := by decide +kernel
theorem dX0_copyFrom_50 : decode cX0_copyFrom 50 = .ok (.aload_n 0, 1) := by decide +kernel
theorem dX0_copyFrom_51 : decode cX0_copyFrom 51 = .ok (.getfield 21, 3) := by decide +kernel
theorem dX0_copyFrom_54 : decode cX0_copyFrom 54 = .ok (.iconst 0, 1) := by decide +kernel
theorem dX0_copyFrom_55 : decode cX0_copyFrom 55 = .ok (.bipush 10, 2) := by decide +kernel
theorem dX0_copyFrom_57 : decode cX0_copyFrom 57 = .ok (.invokestatic 31, 3) := by decide +kernel
theorem dX0_copyFrom_60 : decode cX0_copyFrom 60 = .ok (.aload_n 1, 1) := by decide +kernel
theorem dX0_copyFrom_61 : decode cX0_copyFrom 61 = .ok (.getfield 24, 3) := by decide +kernel
theorem dX0_copyFrom_64 : decode cX0_copyFrom 64 = .ok (.iconst 0, 1) := by decide +kernel
theorem dX0_copyFrom_65 : decode cX0_copyFrom 65 = .ok (.aload_n 0, 1) := by decide +kernel
theorem dX0_copyFrom_66 : decode cX0_copyFrom 66 = .ok (.getfield 24, 3) := by decide +kernel
theorem dX0_copyFrom_69 : decode cX0_copyFrom 69 = .ok (.iconst 0, 1) := by decide +kernel
theorem dX0_copyFrom_70 : decode cX0_copyFrom 70 = .ok (.bipush 10, 2) := by decide +kernel
theorem dX0_copyFrom_72 : decode cX0_copyFrom 72 = .ok (.invokestatic 31, 3) := by decide +kernel
theorem dX0_copyFrom_75 : decode cX0_copyFrom 75 = .ok (.aload_n 1, 1) := by decide +kernel
theorem dX0_copyFrom_76 : decode cX0_copyFrom 76 = .ok (.getfield 27, 3) := by decide +kernel
theorem dX0_copyFrom_79 : decode cX0_copyFrom 79 = .ok (.iconst 0, 1) := by decide +kernel
theorem dX0_copyFrom_80 : decode cX0_copyFrom 80 = .ok (.aload_n 0, 1) := by decide +kernel
theorem dX0_copyFrom_81 : decode cX0_copyFrom 81 = .ok (.getfield 27, 3) := by decide +kernel
theorem dX0_copyFrom_84 : decode cX0_copyFrom 84 = .ok (.iconst 0, 1) := by decide +kernel
theorem dX0_copyFrom_85 : decode cX0_copyFrom 85 = .ok (.bipush 10, 2) := by decide +kernel
theorem dX0_copyFrom_87 : decode cX0_copyFrom 87 = .ok (.invokestatic 31, 3) := by decide +kernel
theorem dX0_copyFrom_90 : decode cX0_copyFrom 90 = .ok (.aload_n 0, 1) := by decide +kernel
theorem dX0_copyFrom_91 : decode cX0_copyFrom 91 = .ok (.aload_n 1, 1) := by decide +kernel
theorem dX0_copyFrom_92 : decode cX0_copyFrom 92 = .ok (.getfield 37, 3) := by decide +kernel
theorem dX0_copyFrom_95 : decode cX0_copyFrom 95 = .ok (.putfield 37, 3) := by decide +kernel
theorem dX0_copyFrom_98 : decode cX0_copyFrom 98 = .ok (.return_, 1) := by decide +kernel
theorem dX0_has_0 : decode cX0_has 0 = .ok (.iload_n 1, 1) := by decide +kernel
theorem dX0_has_1 : decode cX0_has 1 = .ok (.ifCond .lt 15, 3) := by decide +kernel
theorem dX0_has_4 : decode cX0_has 4 = .ok (.iload_n 1, 1) := by decide +kernel
theorem dX0_has_5 : decode cX0_has 5 = .ok (.aload_n 0, 1) := by decide +kernel
theorem dX0_has_6 : decode cX0_has 6 = .ok (.getfield 37, 3) := by decide +kernel
theorem dX0_has_9 : decode cX0_has 9 = .ok (.if_icmp .ge 7, 3) := by decide +kernel
theorem dX0_has_12 : decode cX0_has 12 = .ok (.iconst 1, 1) := by decide +kernel
theorem dX0_has_13 : decode cX0_has 13 = .ok (.goto 4, 3) := by decide +kernel
theorem dX0_has_16 : decode cX0_has 16 = .ok (.iconst 0, 1) := by decide +kernel
theorem dX0_has_17 : decode cX0_has 17 = .ok (.ireturn, 1) := by decide +kernel
theorem dX0_bring_0 : decode cX0_bring 0 = .ok (.aload_n 0, 1) := by decide +kernel
theorem dX0_bring_1 : decode cX0_bring 1 = .ok (.getfield 37, 3) := by decide +kernel
theorem dX0_bring_4 : decode cX0_bring 4 = .ok (.istore 5, 2) := by decide +kernel
theorem dX0_bring_6 : decode cX0_bring 6 = .ok (.aload_n 0, 1) := by decide +kernel
theorem dX0_bring_7 : decode cX0_bring 7 = .ok (.getfield 9, 3) := by decide +kernel
theorem dX0_bring_10 : decode cX0_bring 10 = .ok (.iload 5, 2) := by decide +kernel
theorem dX0_bring_12 : decode cX0_bring 12 = .ok (.iload_n 1, 1) := by decide +kernel
theorem dX0_bring_13 : decode cX0_bring 13 = .ok (.iastore, 1) := by decide +kernel
theorem dX0_bring_14 : decode cX0_bring 14 = .ok (.aload_n 0, 1) := by decide +kernel
theorem dX0_bring_15 : decode cX0_bring 15 = .ok (.getfield 15, 3) := by decide +kernel
theorem dX0_bring_18 : decode cX0_bring 18 = .ok (.iload 5, 2) := by decide +kernel
theorem dX0_bring_20 : decode cX0_bring 20 = .ok (.iload_n 2, 1) := by decide +kernel
theorem dX0_bring_21 : decode cX0_bring 21 = .ok (.iastore, 1) := by decide +kernel
theorem dX0_bring_22 : decode cX0_bring 22 = .ok (.aload_n 0, 1) := by decide +kernel
theorem dX0_bring_23 : decode cX0_bring 23 = .ok (.getfield 18, 3) := by decide +kernel
theorem dX0_bring_26 : decode cX0_bring 26 = .ok (.iload 5, 2) := by decide +kernel
theorem dX0_bring_28 : decode cX0_bring 28 = .ok (.iload_n 3, 1) := by decide +kernel
theorem dX0_bring_29 : decode cX0_bring 29 = .ok (.iastore, 1) := by decide +kernel
theorem dX0_bring_30 : decode cX0_bring 30 = .ok (.aload_n 0, 1) := by decide +kernel
theorem dX0_bring_31 : decode cX0_bring 31 = .ok (.getfield 21, 3) := by decide +kernel
theorem dX0_bring_34 : decode cX0_bring 34 = .ok (.iload 5, 2) := by decide +kernel
theorem dX0_bring_36 : decode cX0_bring 36 = .ok (.iload 4, 2) := by decide +kernel
theorem dX0_bring_38 : decode cX0_bring 38 = .ok (.iastore, 1) := by decide +kernel
theorem dX0_bring_39 : decode cX0_bring 39 = .ok (.aload_n 0, 1) := by decide +kernel
theorem dX0_bring_40 : decode cX0_bring 40 = .ok (.getfield 24, 3) := by decide +kernel
theorem dX0_bring_43 : decode cX0_bring 43 = .ok (.iload 5, 2) := by decide +kernel
theorem dX0_bring_45 : decode cX0_bring 45 = .ok (.iconst 0, 1) := by decide +kernel
theorem dX0_bring_46 : decode cX0_bring 46 = .ok (.iastore, 1) := by decide +kernel
theorem dX0_bring_47 : decode cX0_bring 47 = .ok (.aload_n 0, 1) := by decide +kernel
theorem dX0_bring_48 : decode cX0_bring 48 = .ok (.getfield 27, 3) := by decide +kernel
theorem dX0_bring_51 : decode cX0_bring 51 = .ok (.iload 5, 2) := by decide +kernel
theorem dX0_bring_53 : decode cX0_bring 53 = .ok (.iload_n 3, 1) := by decide +kernel
theorem dX0_bring_54 : decode cX0_bring 54 = .ok (.i2d, 1) := by decide +kernel
theorem dX0_bring_55 : decode cX0_bring 55 = .ok (.dastore, 1) := by decide +kernel
theorem dX0_bring_56 : decode cX0_bring 56 = .ok (.aload_n 0, 1) := by decide +kernel
theorem dX0_bring_57 : decode cX0_bring 57 = .ok (.dup, 1) := by decide +kernel
theorem dX0_bring_58 : decode cX0_bring 58 = .ok (.getfield 37, 3) := by decide +kernel
theorem dX0_bring_61 : decode cX0_bring 61 = .ok (.iconst 1, 1) := by decide +kernel
theorem dX0_bring_62 : decode cX0_bring 62 = .ok (.iadd, 1) := by decide +kernel
theorem dX0_bring_63 : decode cX0_bring 63 = .ok (.putfield 37, 3) := by decide +kernel
theorem dX0_bring_66 : decode cX0_bring 66 = .ok (.iload 5, 2) := by decide +kernel
theorem dX0_bring_68 : decode cX0_bring 68 = .ok (.ireturn, 1) := by decide +kernel
set_option maxRecDepth 20000 in
theorem ggX0_grind_X5_paceOf : GoodIn wsX0_grind wsX5_paceOf := goodIn_r _ [6, 7, 8, 9] (by decide +kernel) (by decide +kernel)
set_option maxRecDepth 20000 in
theorem gX0_grind_X5_paceOf_n41 : GoodIn wsX0_grind (wsX5_paceOf) := ggX0_grind_X5_paceOf
theorem dX0_grind_0 : decode cX0_grind 0 = .ok (.aload_n 0, 1) := by decide +kernel
theorem dX0_grind_1 : decode cX0_grind 1 = .ok (.getfield 27, 3) := by decide +kernel
theorem dX0_grind_4 : decode cX0_grind 4 = .ok (.iload_n 1, 1) := by decide +kernel
theorem dX0_grind_5 : decode cX0_grind 5 = .ok (.daload, 1) := by decide +kernel
theorem dX0_grind_6 : decode cX0_grind 6 = .ok (.dload_n 2, 1) := by decide +kernel
theorem dX0_grind_7 : decode cX0_grind 7 = .ok (.aload_n 0, 1) := by decide +kernel
theorem dX0_grind_8 : decode cX0_grind 8 = .ok (.getfield 15, 3) := by decide +kernel
theorem dX0_grind_11 : decode cX0_grind 11 = .ok (.iload_n 1, 1) := by decide +kernel
theorem dX0_grind_12 : decode cX0_grind 12 = .ok (.iaload, 1) := by decide +kernel
theorem dX0_grind_13 : decode cX0_grind 13 = .ok (.invokestatic 41, 3) := by decide +kernel
theorem dX0_grind_16 : decode cX0_grind 16 = .ok (.dmul, 1) := by decide +kernel
theorem dX0_grind_17 : decode cX0_grind 17 = .ok (.dsub, 1) := by decide +kernel
theorem dX0_grind_18 : decode cX0_grind 18 = .ok (.dstore 4, 2) := by decide +kernel
theorem dX0_grind_20 : decode cX0_grind 20 = .ok (.aload_n 0, 1) := by decide +kernel
theorem dX0_grind_21 : decode cX0_grind 21 = .ok (.getfield 27, 3) := by decide +kernel
theorem dX0_grind_24 : decode cX0_grind 24 = .ok (.iload_n 1, 1) := by decide +kernel
theorem dX0_grind_25 : decode cX0_grind 25 = .ok (.dload 4, 2) := by decide +kernel
theorem dX0_grind_27 : decode cX0_grind 27 = .ok (.dconst 0, 1) := by decide +kernel
theorem dX0_grind_28 : decode cX0_grind 28 = .ok (.dcmp .g, 1) := by decide +kernel
theorem dX0_grind_29 : decode cX0_grind 29 = .ok (.ifCond .ge 7, 3) := by decide +kernel
theorem dX0_grind_32 : decode cX0_grind 32 = .ok (.dconst 0, 1) := by decide +kernel
theorem dX0_grind_33 : decode cX0_grind 33 = .ok (.goto 5, 3) := by decide +kernel
theorem dX0_grind_36 : decode cX0_grind 36 = .ok (.dload 4, 2) := by decide +kernel
theorem dX0_grind_38 : decode cX0_grind 38 = .ok (.dastore, 1) := by decide +kernel
theorem dX0_grind_39 : decode cX0_grind 39 = .ok (.aload_n 0, 1) := by decide +kernel
theorem dX0_grind_40 : decode cX0_grind 40 = .ok (.getfield 27, 3) := by decide +kernel
theorem dX0_grind_43 : decode cX0_grind 43 = .ok (.iload_n 1, 1) := by decide +kernel
theorem dX0_grind_44 : decode cX0_grind 44 = .ok (.daload, 1) := by decide +kernel
theorem dX0_grind_45 : decode cX0_grind 45 = .ok (.dconst 0, 1) := by decide +kernel
theorem dX0_grind_46 : decode cX0_grind 46 = .ok (.dcmp .l, 1) := by decide +kernel
theorem dX0_grind_47 : decode cX0_grind 47 = .ok (.ifCond .ne 10, 3) := by decide +kernel
theorem dX0_grind_50 : decode cX0_grind 50 = .ok (.aload_n 0, 1) := by decide +kernel
theorem dX0_grind_51 : decode cX0_grind 51 = .ok (.getfield 24, 3) := by decide +kernel
theorem dX0_grind_54 : decode cX0_grind 54 = .ok (.iload_n 1, 1) := by decide +kernel
theorem dX0_grind_55 : decode cX0_grind 55 = .ok (.iconst 2, 1) := by decide +kernel
theorem dX0_grind_56 : decode cX0_grind 56 = .ok (.iastore, 1) := by decide +kernel
theorem dX0_grind_57 : decode cX0_grind 57 = .ok (.return_, 1) := by decide +kernel
theorem dX0_countOf_0 : decode cX0_countOf 0 = .ok (.iconst 0, 1) := by decide +kernel
theorem dX0_countOf_1 : decode cX0_countOf 1 = .ok (.istore_n 2, 1) := by decide +kernel
theorem dX0_countOf_2 : decode cX0_countOf 2 = .ok (.iconst 0, 1) := by decide +kernel
theorem dX0_countOf_3 : decode cX0_countOf 3 = .ok (.istore_n 3, 1) := by decide +kernel
theorem dX0_countOf_4 : decode cX0_countOf 4 = .ok (.iload_n 3, 1) := by decide +kernel
theorem dX0_countOf_5 : decode cX0_countOf 5 = .ok (.aload_n 0, 1) := by decide +kernel
theorem dX0_countOf_6 : decode cX0_countOf 6 = .ok (.getfield 37, 3) := by decide +kernel
theorem dX0_countOf_9 : decode cX0_countOf 9 = .ok (.if_icmp .ge 22, 3) := by decide +kernel
theorem dX0_countOf_12 : decode cX0_countOf 12 = .ok (.aload_n 0, 1) := by decide +kernel
theorem dX0_countOf_13 : decode cX0_countOf 13 = .ok (.getfield 24, 3) := by decide +kernel
theorem dX0_countOf_16 : decode cX0_countOf 16 = .ok (.iload_n 3, 1) := by decide +kernel
theorem dX0_countOf_17 : decode cX0_countOf 17 = .ok (.iaload, 1) := by decide +kernel
theorem dX0_countOf_18 : decode cX0_countOf 18 = .ok (.iload_n 1, 1) := by decide +kernel
theorem dX0_countOf_19 : decode cX0_countOf 19 = .ok (.if_icmp .ne 6, 3) := by decide +kernel
theorem dX0_countOf_22 : decode cX0_countOf 22 = .ok (.iinc 2 1, 3) := by decide +kernel
theorem dX0_countOf_25 : decode cX0_countOf 25 = .ok (.iinc 3 1, 3) := by decide +kernel
theorem dX0_countOf_28 : decode cX0_countOf 28 = .ok (.goto (-24), 3) := by decide +kernel
theorem dX0_countOf_31 : decode cX0_countOf 31 = .ok (.iload_n 2, 1) := by decide +kernel
theorem dX0_countOf_32 : decode cX0_countOf 32 = .ok (.ireturn, 1) := by decide +kernel
theorem dX0_weightOf_0 : decode cX0_weightOf 0 = .ok (.iconst 0, 1) := by decide +kernel
theorem dX0_weightOf_1 : decode cX0_weightOf 1 = .ok (.istore_n 3, 1) := by decide +kernel
theorem dX0_weightOf_2 : decode cX0_weightOf 2 = .ok (.iconst 0, 1) := by decide +kernel
theorem dX0_weightOf_3 : decode cX0_weightOf 3 = .ok (.istore 4, 2) := by decide +kernel
theorem dX0_weightOf_5 : decode cX0_weightOf 5 = .ok (.iload 4, 2) := by decide +kernel
theorem dX0_weightOf_7 : decode cX0_weightOf 7 = .ok (.aload_n 0, 1) := by decide +kernel
theorem dX0_weightOf_8 : decode cX0_weightOf 8 = .ok (.getfield 37, 3) := by decide +kernel
theorem dX0_weightOf_11 : decode cX0_weightOf 11 = .ok (.if_icmp .ge 45, 3) := by decide +kernel
theorem dX0_weightOf_14 : decode cX0_weightOf 14 = .ok (.aload_n 0, 1) := by decide +kernel
theorem dX0_weightOf_15 : decode cX0_weightOf 15 = .ok (.getfield 9, 3) := by decide +kernel
theorem dX0_weightOf_18 : decode cX0_weightOf 18 = .ok (.iload 4, 2) := by decide +kernel
theorem dX0_weightOf_20 : decode cX0_weightOf 20 = .ok (.iaload, 1) := by decide +kernel
theorem dX0_weightOf_21 : decode cX0_weightOf 21 = .ok (.iload_n 1, 1) := by decide +kernel
theorem dX0_weightOf_22 : decode cX0_weightOf 22 = .ok (.if_icmp .ne 28, 3) := by decide +kernel
theorem dX0_weightOf_25 : decode cX0_weightOf 25 = .ok (.iload_n 2, 1) := by decide +kernel
theorem dX0_weightOf_26 : decode cX0_weightOf 26 = .ok (.ifCond .ne 14, 3) := by decide +kernel
theorem dX0_weightOf_29 : decode cX0_weightOf 29 = .ok (.aload_n 0, 1) := by decide +kernel
theorem dX0_weightOf_30 : decode cX0_weightOf 30 = .ok (.getfield 24, 3) := by decide +kernel
theorem dX0_weightOf_33 : decode cX0_weightOf 33 = .ok (.iload 4, 2) := by decide +kernel
theorem dX0_weightOf_35 : decode cX0_weightOf 35 = .ok (.iaload, 1) := by decide +kernel
theorem dX0_weightOf_36 : decode cX0_weightOf 36 = .ok (.iconst 3, 1) := by decide +kernel
theorem dX0_weightOf_37 : decode cX0_weightOf 37 = .ok (.if_icmp .eq 13, 3) := by decide +kernel
theorem dX0_weightOf_40 : decode cX0_weightOf 40 = .ok (.iload_n 3, 1) := by decide +kernel
theorem dX0_weightOf_41 : decode cX0_weightOf 41 = .ok (.aload_n 0, 1) := by decide +kernel
theorem dX0_weightOf_42 : decode cX0_weightOf 42 = .ok (.getfield 18, 3) := by decide +kernel
theorem dX0_weightOf_45 : decode cX0_weightOf 45 = .ok (.iload 4, 2) := by decide +kernel
theorem dX0_weightOf_47 : decode cX0_weightOf 47 = .ok (.iaload, 1) := by decide +kernel
theorem dX0_weightOf_48 : decode cX0_weightOf 48 = .ok (.iadd, 1) := by decide +kernel
theorem dX0_weightOf_49 : decode cX0_weightOf 49 = .ok (.istore_n 3, 1) := by decide +kernel
theorem dX0_weightOf_50 : decode cX0_weightOf 50 = .ok (.iinc 4 1, 3) := by decide +kernel
theorem dX0_weightOf_53 : decode cX0_weightOf 53 = .ok (.goto (-48), 3) := by decide +kernel
theorem dX0_weightOf_56 : decode cX0_weightOf 56 = .ok (.iload_n 3, 1) := by decide +kernel
theorem dX0_weightOf_57 : decode cX0_weightOf 57 = .ok (.ireturn, 1) := by decide +kernel
theorem dX0_allLeft_0 : decode cX0_allLeft 0 = .ok (.dconst 0, 1) := by decide +kernel
theorem dX0_allLeft_1 : decode cX0_allLeft 1 = .ok (.dstore_n 1, 1) := by decide +kernel
theorem dX0_allLeft_2 : decode cX0_allLeft 2 = .ok (.iconst 0, 1) := by decide +kernel
theorem dX0_allLeft_3 : decode cX0_allLeft 3 = .ok (.istore_n 3, 1) := by decide +kernel
theorem dX0_allLeft_4 : decode cX0_allLeft 4 = .ok (.iload_n 3, 1) := by decide +kernel
theorem dX0_allLeft_5 : decode cX0_allLeft 5 = .ok (.aload_n 0, 1) := by decide +kernel
theorem dX0_allLeft_6 : decode cX0_allLeft 6 = .ok (.getfield 37, 3) := by decide +kernel
theorem dX0_allLeft_9 : decode cX0_allLeft 9 = .ok (.if_icmp .ge 18, 3) := by decide +kernel
theorem dX0_allLeft_12 : decode cX0_allLeft 12 = .ok (.dload_n 1, 1) := by decide +kernel
theorem dX0_allLeft_13 : decode cX0_allLeft 13 = .ok (.aload_n 0, 1) := by decide +kernel
theorem dX0_allLeft_14 : decode cX0_allLeft 14 = .ok (.getfield 27, 3) := by decide +kernel
theorem dX0_allLeft_17 : decode cX0_allLeft 17 = .ok (.iload_n 3, 1) := by decide +kernel
theorem dX0_allLeft_18 : decode cX0_allLeft 18 = .ok (.daload, 1) := by decide +kernel
theorem dX0_allLeft_19 : decode cX0_allLeft 19 = .ok (.dadd, 1) := by decide +kernel
theorem dX0_allLeft_20 : decode cX0_allLeft 20 = .ok (.dstore_n 1, 1) := by decide +kernel
theorem dX0_allLeft_21 : decode cX0_allLeft 21 = .ok (.iinc 3 1, 3) := by decide +kernel
theorem dX0_allLeft_24 : decode cX0_allLeft 24 = .ok (.goto (-20), 3) := by decide +kernel
theorem dX0_allLeft_27 : decode cX0_allLeft 27 = .ok (.dload_n 1, 1) := by decide +kernel
theorem dX0_allLeft_28 : decode cX0_allLeft 28 = .ok (.dreturn, 1) := by decide +kernel
set_option maxRecDepth 20000 in
theorem ggX1_init_X4_init : GoodIn wsX1_init wsX4_init := goodIn_r _ [23, 24, 2, 3] (by decide +kernel) (by decide +kernel)
set_option maxRecDepth 20000 in
theorem gX1_init_X4_init_n11 : GoodIn wsX1_init (wsX4_init) := ggX1_init_X4_init
set_option maxRecDepth 20000 in
theorem ggX1_init_X3_init : GoodIn wsX1_init wsX3_init := goodIn_r _ [26, 27, 2, 3] (by decide +kernel) (by decide +kernel)
set_option maxRecDepth 20000 in
theorem gX1_init_X3_init_n20 : GoodIn wsX1_init (wsX3_init) := ggX1_init_X3_init
set_option maxRecDepth 20000 in
theorem ggX1_init_X0_init : GoodIn wsX1_init wsX0_init := goodIn_r _ [29, 30, 2, 3, 31, 32, 33, 34, 35, 36, 37, 38, 63, 64, 65, 66, 67, 68, 69] (by decide +kernel) (by decide +kernel)
set_option maxRecDepth 20000 in
theorem gX1_init_X0_init_n27 : GoodIn wsX1_init (wsX0_init) := ggX1_init_X0_init
set_option maxRecDepth 20000 in
theorem ggX1_init_X2_init : GoodIn wsX1_init wsX2_init := goodIn_r _ [40, 41, 2, 3, 42, 43, 31, 44, 45, 46, 70, 71, 72, 73, 74] (by decide +kernel) (by decide +kernel)
set_option maxRecDepth 20000 in
theorem gX1_init_X2_init_n34 : GoodIn wsX1_init (wsX2_init) := ggX1_init_X2_init
theorem dX1_init_0 : decode cX1_init 0 = .ok (.aload_n 0, 1) := by decide +kernel
theorem dX1_init_1 : decode cX1_init 1 = .ok (.invokespecial 3, 3) := by decide +kernel
theorem dX1_init_4 : decode cX1_init 4 = .ok (.aload_n 0, 1) := by decide +kernel
theorem dX1_init_5 : decode cX1_init 5 = .ok (.new 9, 3) := by decide +kernel
theorem dX1_init_8 : decode cX1_init 8 = .ok (.dup, 1) := by decide +kernel
theorem dX1_init_9 : decode cX1_init 9 = .ok (.invokespecial 11, 3) := by decide +kernel
theorem dX1_init_12 : decode cX1_init 12 = .ok (.putfield 12, 3) := by decide +kernel
theorem dX1_init_15 : decode cX1_init 15 = .ok (.aload_n 0, 1) := by decide +kernel
theorem dX1_init_16 : decode cX1_init 16 = .ok (.new 18, 3) := by decide +kernel
theorem dX1_init_19 : decode cX1_init 19 = .ok (.dup, 1) := by decide +kernel
theorem dX1_init_20 : decode cX1_init 20 = .ok (.invokespecial 20, 3) := by decide +kernel
theorem dX1_init_23 : decode cX1_init 23 = .ok (.putfield 21, 3) := by decide +kernel
theorem dX1_init_26 : decode cX1_init 26 = .ok (.aload_n 0, 1) := by decide +kernel
theorem dX1_init_27 : decode cX1_init 27 = .ok (.new 25, 3) := by decide +kernel
theorem dX1_init_30 : decode cX1_init 30 = .ok (.dup, 1) := by decide +kernel
theorem dX1_init_31 : decode cX1_init 31 = .ok (.invokespecial 27, 3) := by decide +kernel
theorem dX1_init_34 : decode cX1_init 34 = .ok (.putfield 28, 3) := by decide +kernel
theorem dX1_init_37 : decode cX1_init 37 = .ok (.aload_n 0, 1) := by decide +kernel
theorem dX1_init_38 : decode cX1_init 38 = .ok (.new 32, 3) := by decide +kernel
theorem dX1_init_41 : decode cX1_init 41 = .ok (.dup, 1) := by decide +kernel
theorem dX1_init_42 : decode cX1_init 42 = .ok (.invokespecial 34, 3) := by decide +kernel
theorem dX1_init_45 : decode cX1_init 45 = .ok (.putfield 35, 3) := by decide +kernel
theorem dX1_init_48 : decode cX1_init 48 = .ok (.aload_n 0, 1) := by decide +kernel
theorem dX1_init_49 : decode cX1_init 49 = .ok (.iconst 0, 1) := by decide +kernel
theorem dX1_init_50 : decode cX1_init 50 = .ok (.putfield 39, 3) := by decide +kernel
theorem dX1_init_53 : decode cX1_init 53 = .ok (.aload_n 0, 1) := by decide +kernel
theorem dX1_init_54 : decode cX1_init 54 = .ok (.bipush 47, 2) := by decide +kernel
theorem dX1_init_56 : decode cX1_init 56 = .ok (.putfield 43, 3) := by decide +kernel
theorem dX1_init_59 : decode cX1_init 59 = .ok (.return_, 1) := by decide +kernel
set_option maxRecDepth 20000 in
theorem ggX1_copyFrom_X4_copyFrom : GoodIn wsX1_copyFrom wsX4_copyFrom := goodIn_r _ [12, 13, 14, 15, 61, 62, 63] (by decide +kernel) (by decide +kernel)
set_option maxRecDepth 20000 in
theorem gX1_copyFrom_X4_copyFrom : GoodIn wsX1_copyFrom (wsV RX1 46 RX4 yX4_copyFrom wsX4_copyFrom) := goodIn_app (goodIn_of _ (by decide +kernel)) ggX1_copyFrom_X4_copyFrom
set_option maxRecDepth 20000 in
theorem ggX1_copyFrom_X3_copyFrom : GoodIn wsX1_copyFrom wsX3_copyFrom := goodIn_r _ [20, 21, 22, 23, 24, 25, 26, 64, 65, 66, 67, 68, 69] (by decide +kernel) (by decide +kernel)
set_option maxRecDepth 20000 in
theorem gX1_copyFrom_X3_copyFrom : GoodIn wsX1_copyFrom (wsV RX1 50 RX3 yX3_copyFrom wsX3_copyFrom) := goodIn_app (goodIn_of _ (by decide +kernel)) ggX1_copyFrom_X3_copyFrom
set_option maxRecDepth 20000 in
theorem ggX1_copyFrom_X0_copyFrom : GoodIn wsX1_copyFrom wsX0_copyFrom := goodIn_r _ [31, 32, 33, 34, 35, 36, 37, 38, 39, 40, 41, 42, 70, 71, 72, 73, 74, 75, 76] (by decide +kernel) (by decide +kernel)
set_option maxRecDepth 20000 in
theorem gX1_copyFrom_X0_copyFrom : GoodIn wsX1_copyFrom (wsV RX1 53 RX0 yX0_copyFrom wsX0_copyFrom) := goodIn_app (goodIn_of _ (by decide +kernel)) ggX1_copyFrom_X0_copyFrom
set_option maxRecDepth 20000 in
theorem ggX1_copyFrom_X2_copyFrom : GoodIn wsX1_copyFrom wsX2_copyFrom := goodIn_r _ [47, 48, 49, 34, 35, 36, 50, 51, 52, 53, 77, 78, 79, 80, 81] (by decide +kernel) (by decide +kernel)
set_option maxRecDepth 20000 in
theorem gX1_copyFrom_X2_copyFrom : GoodIn wsX1_copyFrom (wsV RX1 56 RX2 yX2_copyFrom wsX2_copyFrom) := goodIn_app (goodIn_of _ (by decide +kernel)) ggX1_copyFrom_X2_copyFrom
theorem dX1_copyFrom_0 : decode cX1_copyFrom 0 = .ok (.aload_n 0, 1) := by decide +kernel
theorem dX1_copyFrom_1 : decode cX1_copyFrom 1 = .ok (.getfield 12, 3) := by decide +kernel
theorem dX1_copyFrom_4 : decode cX1_copyFrom 4 = .ok (.aload_n 1, 1) := by decide +kernel
theorem dX1_copyFrom_5 : decode cX1_copyFrom 5 = .ok (.getfield 12, 3) := by decide +kernel
theorem dX1_copyFrom_8 : decode cX1_copyFrom 8 = .ok (.invokevirtual 46, 3) := by decide +kernel
theorem dX1_copyFrom_11 : decode cX1_copyFrom 11 = .ok (.aload_n 0, 1) := by decide +kernel
theorem dX1_copyFrom_12 : decode cX1_copyFrom 12 = .ok (.getfield 21, 3) := by decide +kernel
theorem dX1_copyFrom_15 : decode cX1_copyFrom 15 = .ok (.aload_n 1, 1) := by decide +kernel
theorem dX1_copyFrom_16 : decode cX1_copyFrom 16 = .ok (.getfield 21, 3) := by decide +kernel
theorem dX1_copyFrom_19 : decode cX1_copyFrom 19 = .ok (.invokevirtual 50, 3) := by decide +kernel
theorem dX1_copyFrom_22 : decode cX1_copyFrom 22 = .ok (.aload_n 0, 1) := by decide +kernel
theorem dX1_copyFrom_23 : decode cX1_copyFrom 23 = .ok (.getfield 28, 3) := by decide +kernel
theorem dX1_copyFrom_26 : decode cX1_copyFrom 26 = .ok (.aload_n 1, 1) := by decide +kernel
theorem dX1_copyFrom_27 : decode cX1_copyFrom 27 = .ok (.getfield 28, 3) := by decide +kernel
theorem dX1_copyFrom_30 : decode cX1_copyFrom 30 = .ok (.invokevirtual 53, 3) := by decide +kernel
theorem dX1_copyFrom_33 : decode cX1_copyFrom 33 = .ok (.aload_n 0, 1) := by decide +kernel
theorem dX1_copyFrom_34 : decode cX1_copyFrom 34 = .ok (.getfield 35, 3) := by decide +kernel
theorem dX1_copyFrom_37 : decode cX1_copyFrom 37 = .ok (.aload_n 1, 1) := by decide +kernel
theorem dX1_copyFrom_38 : decode cX1_copyFrom 38 = .ok (.getfield 35, 3) := by decide +kernel
theorem dX1_copyFrom_41 : decode cX1_copyFrom 41 = .ok (.invokevirtual 56, 3) := by decide +kernel
theorem dX1_copyFrom_44 : decode cX1_copyFrom 44 = .ok (.aload_n 0, 1) := by decide +kernel
theorem dX1_copyFrom_45 : decode cX1_copyFrom 45 = .ok (.aload_n 1, 1) := by decide +kernel
theorem dX1_copyFrom_46 : decode cX1_copyFrom 46 = .ok (.getfield 39, 3) := by decide +kernel
theorem dX1_copyFrom_49 : decode cX1_copyFrom 49 = .ok (.putfield 39, 3) := by decide +kernel
theorem dX1_copyFrom_52 : decode cX1_copyFrom 52 = .ok (.aload_n 0, 1) := by decide +kernel
theorem dX1_copyFrom_53 : decode cX1_copyFrom 53 = .ok (.aload_n 1, 1) := by decide +kernel
theorem dX1_copyFrom_54 : decode cX1_copyFrom 54 = .ok (.getfield 43, 3) := by decide +kernel
theorem dX1_copyFrom_57 : decode cX1_copyFrom 57 = .ok (.putfield 43, 3) := by decide +kernel
theorem dX1_copyFrom_60 : decode cX1_copyFrom 60 = .ok (.aload_n 0, 1) := by decide +kernel
theorem dX1_copyFrom_61 : decode cX1_copyFrom 61 = .ok (.aload_n 1, 1) := by decide +kernel
theorem dX1_copyFrom_62 : decode cX1_copyFrom 62 = .ok (.getfield 59, 3) := by decide +kernel
theorem dX1_copyFrom_65 : decode cX1_copyFrom 65 = .ok (.putfield 59, 3) := by decide +kernel
theorem dX1_copyFrom_68 : decode cX1_copyFrom 68 = .ok (.return_, 1) := by decide +kernel
set_option maxRecDepth 20000 in
theorem ggX1_isAwake_X4_hourNow : GoodIn wsX1_isAwake wsX4_hourNow := goodIn_r _ [8, 9, 17, 18, 19] (by decide +kernel) (by decide +kernel)
set_option maxRecDepth 20000 in
theorem gX1_isAwake_X4_hourNow : GoodIn wsX1_isAwake (wsV RX1 62 RX4 yX4_hourNow wsX4_hourNow) := goodIn_app (goodIn_of _ (by decide +kernel)) ggX1_isAwake_X4_hourNow
theorem dX1_isAwake_0 : decode cX1_isAwake 0 = .ok (.aload_n 0, 1) := by decide +kernel
theorem dX1_isAwake_1 : decode cX1_isAwake 1 = .ok (.getfield 12, 3) := by decide +kernel
theorem dX1_isAwake_4 : decode cX1_isAwake 4 = .ok (.invokevirtual 62, 3) := by decide +kernel
theorem dX1_isAwake_7 : decode cX1_isAwake 7 = .ok (.istore_n 1, 1) := by decide +kernel
theorem dX1_isAwake_8 : decode cX1_isAwake 8 = .ok (.aload_n 0, 1) := by decide +kernel
theorem dX1_isAwake_9 : decode cX1_isAwake 9 = .ok (.getfield 39, 3) := by decide +kernel
theorem dX1_isAwake_12 : decode cX1_isAwake 12 = .ok (.aload_n 0, 1) := by decide +kernel
theorem dX1_isAwake_13 : decode cX1_isAwake 13 = .ok (.getfield 43, 3) := by decide +kernel
theorem dX1_isAwake_16 : decode cX1_isAwake 16 = .ok (.if_icmp .le 25, 3) := by decide +kernel
theorem dX1_isAwake_19 : decode cX1_isAwake 19 = .ok (.iload_n 1, 1) := by decide +kernel
theorem dX1_isAwake_20 : decode cX1_isAwake 20 = .ok (.aload_n 0, 1) := by decide +kernel
theorem dX1_isAwake_21 : decode cX1_isAwake 21 = .ok (.getfield 39, 3) := by decide +kernel
theorem dX1_isAwake_24 : decode cX1_isAwake 24 = .ok (.if_icmp .ge 11, 3) := by decide +kernel
theorem dX1_isAwake_27 : decode cX1_isAwake 27 = .ok (.iload_n 1, 1) := by decide +kernel
theorem dX1_isAwake_28 : decode cX1_isAwake 28 = .ok (.aload_n 0, 1) := by decide +kernel
theorem dX1_isAwake_29 : decode cX1_isAwake 29 = .ok (.getfield 43, 3) := by decide +kernel
theorem dX1_isAwake_32 : decode cX1_isAwake 32 = .ok (.if_icmp .gt 7, 3) := by decide +kernel
theorem dX1_isAwake_35 : decode cX1_isAwake 35 = .ok (.iconst 1, 1) := by decide +kernel
theorem dX1_isAwake_36 : decode cX1_isAwake 36 = .ok (.goto 4, 3) := by decide +kernel
theorem dX1_isAwake_39 : decode cX1_isAwake 39 = .ok (.iconst 0, 1) := by decide +kernel
theorem dX1_isAwake_40 : decode cX1_isAwake 40 = .ok (.ireturn, 1) := by decide +kernel
theorem dX1_isAwake_41 : decode cX1_isAwake 41 = .ok (.iload_n 1, 1) := by decide +kernel
theorem dX1_isAwake_42 : decode cX1_isAwake 42 = .ok (.aload_n 0, 1) := by decide +kernel
theorem dX1_isAwake_43 : decode cX1_isAwake 43 = .ok (.getfield 39, 3) := by decide +kernel
theorem dX1_isAwake_46 : decode cX1_isAwake 46 = .ok (.if_icmp .lt 15, 3) := by decide +kernel
theorem dX1_isAwake_49 : decode cX1_isAwake 49 = .ok (.iload_n 1, 1) := by decide +kernel
theorem dX1_isAwake_50 : decode cX1_isAwake 50 = .ok (.aload_n 0, 1) := by decide +kernel
theorem dX1_isAwake_51 : decode cX1_isAwake 51 = .ok (.getfield 43, 3) := by decide +kernel
theorem dX1_isAwake_54 : decode cX1_isAwake 54 = .ok (.if_icmp .gt 7, 3) := by decide +kernel
theorem dX1_isAwake_57 : decode cX1_isAwake 57 = .ok (.iconst 1, 1) := by decide +kernel
theorem dX1_isAwake_58 : decode cX1_isAwake 58 = .ok (.goto 4, 3) := by decide +kernel
theorem dX1_isAwake_61 : decode cX1_isAwake 61 = .ok (.iconst 0, 1) := by decide +kernel
theorem dX1_isAwake_62 : decode cX1_isAwake 62 = .ok (.ireturn, 1) := by decide +kernel
set_option maxRecDepth 20000 in
theorem ggX1_letGoBy_X1_goBy : GoodIn wsX1_letGoBy wsX1_goBy := goodIn_r _ [5, 6, 7, 8, 9, 10, 11, 12, 13, 14, 15, 16, 17, 18, 19, 20, 21, 22, 23, 24, 25, 26, 27, 28, 29, 30, 31, 32, 33, 34, 35, 36, 37, 38, 39, 40, 41, 42, 43, 44, 45, 46, 47, 48, 49, 50, 51, 52, 53, 54, 55, 56, 57, 58, 59, 60, 61, 62, 63, 64, 65, 66, 67, 68, 69, 70, 71, 72, 73, 74, 75, 76, 77, 78, 79, 80, 81, 82, 83, 84, 85, 86, 4, 87, 88, 89, 90, 91, 92, 93, 94, 95, 96, 97, 98, 99, 100, 101, 102, 103, 104, 105, 106, 107, 108, 109, 110, 111, 112, 113, 114, 115, 116, 117, 118, 119, 120, 121, 122, 123, 124, 125, 126, 127, 128, 129, 130, 131, 132, 133, 134, 135, 136, 137, 138, 139, 140, 141, 142, 143, 144, 145, 146, 147, 148, 149, 150, 151, 152, 153, 154, 155, 156, 157, 158, 159, 160, 161, 162, 163, 164, 165, 166, 167, 168, 169, 170, 171, 172, 173, 174, 175, 176, 177, 178] (by decide +kernel) (by decide +kernel)
set_option maxRecDepth 20000 in
theorem gX1_letGoBy_X1_goBy : GoodIn wsX1_letGoBy (wsV RX1 66 RX1 yX1_goBy wsX1_goBy) := goodIn_app (goodIn_of _ (by decide +kernel)) ggX1_letGoBy_X1_goBy
theorem dX1_letGoBy_0 : decode cX1_letGoBy 0 = .ok (.iconst 0, 1) := by decide +kernel
theorem dX1_letGoBy_1 : decode cX1_letGoBy 1 = .ok (.istore_n 2, 1) := by decide +kernel
theorem dX1_letGoBy_2 : decode cX1_letGoBy 2 = .ok (.iload_n 2, 1) := by decide +kernel
theorem dX1_letGoBy_3 : decode cX1_letGoBy 3 = .ok (.iload_n 1, 1) := by decide +kernel
theorem dX1_letGoBy_4 : decode cX1_letGoBy 4 = .ok (.if_icmp .ge 13, 3) := by decide +kernel
theorem dX1_letGoBy_7 : decode cX1_letGoBy 7 = .ok (.aload_n 0, 1) := by decide +kernel
theorem dX1_letGoBy_8 : decode cX1_letGoBy 8 = .ok (.invokevirtual 66, 3) := by decide +kernel
theorem dX1_letGoBy_11 : decode cX1_letGoBy 11 = .ok (.iinc 2 1, 3) := by decide +kernel
theorem dX1_letGoBy_14 : decode cX1_letGoBy 14 = .ok (.goto (-12), 3) := by decide +kernel
theorem dX1_letGoBy_17 : decode cX1_letGoBy 17 = .ok (.return_, 1) := by decide +kernel
set_option maxRecDepth 20000 in
theorem ggX1_goBy_X4_heightOn : GoodIn wsX1_goBy wsX4_heightOn := goodIn_r _ [13, 14, 15, 16, 17, 18, 19, 20, 21, 12, 22, 23, 24, 25, 26, 27, 28, 29, 30, 31, 32, 33, 34, 35, 36, 37, 38, 39, 40, 41, 42, 43, 44, 154, 155, 156] (by decide +kernel) (by decide +kernel)
set_option maxRecDepth 20000 in
theorem gX1_goBy_X4_heightOn : GoodIn wsX1_goBy (wsV RX1 72 RX4 yX4_heightOn wsX4_heightOn) := goodIn_app (goodIn_of _ (by decide +kernel)) ggX1_goBy_X4_heightOn
set_option maxRecDepth 20000 in
theorem ggX1_goBy_X3_goBy : GoodIn wsX1_goBy wsX3_goBy := goodIn_r _ [49, 50, 51, 52, 48, 53, 54, 55, 56, 57, 58, 59, 60, 61, 62, 63, 64, 65, 66, 67, 68, 69, 70, 71, 72, 73, 74, 75, 76, 77, 78, 157, 158, 159, 160, 161, 162] (by decide +kernel) (by decide +kernel)
set_option maxRecDepth 20000 in
theorem gX1_goBy_X3_goBy : GoodIn wsX1_goBy (wsV RX1 76 RX3 yX3_goBy wsX3_goBy) := goodIn_app (goodIn_of _ (by decide +kernel)) ggX1_goBy_X3_goBy
set_option maxRecDepth 20000 in
theorem ggX1_goBy_X1_isAwake : GoodIn wsX1_goBy wsX1_isAwake := goodIn_r _ [83, 2, 84, 85, 86, 87, 88, 12, 89, 90, 147, 148, 149, 150, 151, 152, 153, 154, 155, 156] (by decide +kernel) (by decide +kernel)
set_option maxRecDepth 20000 in
theorem gX1_goBy_X1_isAwake : GoodIn wsX1_goBy (wsV RX1 83 RX1 yX1_isAwake wsX1_isAwake) := goodIn_app (goodIn_of _ (by decide +kernel)) ggX1_goBy_X1_isAwake
set_option maxRecDepth 20000 in
theorem ggX1_goBy_X2_goBy : GoodIn wsX1_goBy wsX2_goBy := goodIn_r _ [95, 96, 97, 98, 99, 100, 101, 94, 102, 103, 104, 105, 106, 107, 108, 109, 110, 111, 112, 113, 114, 115, 116, 117, 118, 119, 120, 121, 122, 123, 124, 125, 126, 127, 128, 129, 130, 131, 132, 133, 134, 135, 136, 137, 138, 139, 140, 141, 163, 164, 165, 166, 167, 168, 169, 170, 171, 172, 173, 174] (by decide +kernel) (by decide +kernel)
set_option maxRecDepth 20000 in
theorem gX1_goBy_X2_goBy : GoodIn wsX1_goBy (wsV RX1 87 RX2 yX2_goBy wsX2_goBy) := goodIn_app (goodIn_of _ (by decide +kernel)) ggX1_goBy_X2_goBy
set_option maxRecDepth 20000 in
theorem ggX1_goBy_X1_areEelsAbout : GoodIn wsX1_goBy wsX1_areEelsAbout := goodIn_r _ [145, 2, 3, 146, 26, 27, 12, 28, 29, 86, 87, 88, 89, 90, 147, 148, 149, 150, 151, 152, 153, 154, 155, 156] (by decide +kernel) (by decide +kernel)
set_option maxRecDepth 20000 in
theorem gX1_goBy_X1_areEelsAbout : GoodIn wsX1_goBy (wsV RX1 90 RX1 yX1_areEelsAbout wsX1_areEelsAbout) := goodIn_app (goodIn_of _ (by decide +kernel)) ggX1_goBy_X1_areEelsAbout
theorem dX1_goBy_0 : decode cX1_goBy 0 = .ok (.aload_n 0, 1) := by decide +kernel
theorem dX1_goBy_1 : decode cX1_goBy 1 = .ok (.getfield 21, 3) := by decide +kernel
theorem dX1_goBy_4 : decode cX1_goBy 4 = .ok (.aload_n 0, 1) := by decide +kernel
theorem dX1_goBy_5 : decode cX1_goBy 5 = .ok (.getfield 12, 3) := by decide +kernel
theorem dX1_goBy_8 : decode cX1_goBy 8 = .ok (.aload_n 0, 1) := by decide +kernel
theorem dX1_goBy_9 : decode cX1_goBy 9 = .ok (.getfield 12, 3) := by decide +kernel
theorem dX1_goBy_12 : decode cX1_goBy 12 = .ok (.getfield 69, 3) := by decide +kernel
theorem dX1_goBy_15 : decode cX1_goBy 15 = .ok (.invokevirtual 72, 3) := by decide +kernel
theorem dX1_goBy_18 : decode cX1_goBy 18 = .ok (.invokevirtual 76, 3) := by decide +kernel
theorem dX1_goBy_21 : decode cX1_goBy 21 = .ok (.aload_n 0, 1) := by decide +kernel
theorem dX1_goBy_22 : decode cX1_goBy 22 = .ok (.getfield 35, 3) := by decide +kernel
theorem dX1_goBy_25 : decode cX1_goBy 25 = .ok (.aload_n 0, 1) := by decide +kernel
theorem dX1_goBy_26 : decode cX1_goBy 26 = .ok (.getfield 21, 3) := by decide +kernel
theorem dX1_goBy_29 : decode cX1_goBy 29 = .ok (.getfield 79, 3) := by decide +kernel
theorem dX1_goBy_32 : decode cX1_goBy 32 = .ok (.aload_n 0, 1) := by decide +kernel
theorem dX1_goBy_33 : decode cX1_goBy 33 = .ok (.invokevirtual 83, 3) := by decide +kernel
theorem dX1_goBy_36 : decode cX1_goBy 36 = .ok (.aload_n 0, 1) := by decide +kernel
theorem dX1_goBy_37 : decode cX1_goBy 37 = .ok (.getfield 28, 3) := by decide +kernel
theorem dX1_goBy_40 : decode cX1_goBy 40 = .ok (.invokevirtual 87, 3) := by decide +kernel
theorem dX1_goBy_43 : decode cX1_goBy 43 = .ok (.aload_n 0, 1) := by decide +kernel
theorem dX1_goBy_44 : decode cX1_goBy 44 = .ok (.getfield 21, 3) := by decide +kernel
theorem dX1_goBy_47 : decode cX1_goBy 47 = .ok (.getfield 79, 3) := by decide +kernel
theorem dX1_goBy_50 : decode cX1_goBy 50 = .ok (.dconst 0, 1) := by decide +kernel
theorem dX1_goBy_51 : decode cX1_goBy 51 = .ok (.dcmp .l, 1) := by decide +kernel
theorem dX1_goBy_52 : decode cX1_goBy 52 = .ok (.ifCond .le 26, 3) := by decide +kernel
theorem dX1_goBy_55 : decode cX1_goBy 55 = .ok (.aload_n 0, 1) := by decide +kernel
theorem dX1_goBy_56 : decode cX1_goBy 56 = .ok (.invokevirtual 90, 3) := by decide +kernel
theorem dX1_goBy_59 : decode cX1_goBy 59 = .ok (.ifCond .eq 19, 3) := by decide +kernel
theorem dX1_goBy_62 : decode cX1_goBy 62 = .ok (.aload_n 0, 1) := by decide +kernel
theorem dX1_goBy_63 : decode cX1_goBy 63 = .ok (.dup, 1) := by decide +kernel
theorem dX1_goBy_64 : decode cX1_goBy 64 = .ok (.getfield 59, 3) := by decide +kernel
theorem dX1_goBy_67 : decode cX1_goBy 67 = .ok (.aload_n 0, 1) := by decide +kernel
theorem dX1_goBy_68 : decode cX1_goBy 68 = .ok (.getfield 21, 3) := by decide +kernel
theorem dX1_goBy_71 : decode cX1_goBy 71 = .ok (.getfield 93, 3) := by decide +kernel
theorem dX1_goBy_74 : decode cX1_goBy 74 = .ok (.iadd, 1) := by decide +kernel
theorem dX1_goBy_75 : decode cX1_goBy 75 = .ok (.putfield 59, 3) := by decide +kernel
theorem dX1_goBy_78 : decode cX1_goBy 78 = .ok (.aload_n 0, 1) := by decide +kernel
theorem dX1_goBy_79 : decode cX1_goBy 79 = .ok (.getfield 12, 3) := by decide +kernel
theorem dX1_goBy_82 : decode cX1_goBy 82 = .ok (.dup, 1) := by decide +kernel
theorem dX1_goBy_83 : decode cX1_goBy 83 = .ok (.getfield 69, 3) := by decide +kernel
theorem dX1_goBy_86 : decode cX1_goBy 86 = .ok (.iconst 1, 1) := by decide +kernel
theorem dX1_goBy_87 : decode cX1_goBy 87 = .ok (.iadd, 1) := by decide +kernel
theorem dX1_goBy_88 : decode cX1_goBy 88 = .ok (.putfield 69, 3) := by decide +kernel
theorem dX1_goBy_91 : decode cX1_goBy 91 = .ok (.return_, 1) := by decide +kernel
set_option maxRecDepth 20000 in
theorem ggX1_areEelsAbout_X4_ageOn : GoodIn wsX1_areEelsAbout wsX4_ageOn := goodIn_r _ [7, 8, 21, 22, 23] (by decide +kernel) (by decide +kernel)
set_option maxRecDepth 20000 in
theorem gX1_areEelsAbout_X4_ageOn : GoodIn wsX1_areEelsAbout (wsV RX1 96 RX4 yX4_ageOn wsX4_ageOn) := goodIn_app (goodIn_of _ (by decide +kernel)) ggX1_areEelsAbout_X4_ageOn
set_option maxRecDepth 20000 in
theorem ggX1_areEelsAbout_X4_hourNow : GoodIn wsX1_areEelsAbout wsX4_hourNow := goodIn_r _ [12, 13, 21, 22, 23] (by decide +kernel) (by decide +kernel)
set_option maxRecDepth 20000 in
theorem gX1_areEelsAbout_X4_hourNow : GoodIn wsX1_areEelsAbout (wsV RX1 62 RX4 yX4_hourNow wsX4_hourNow) := goodIn_app (goodIn_of _ (by decide +kernel)) ggX1_areEelsAbout_X4_hourNow
theorem dX1_areEelsAbout_0 : decode cX1_areEelsAbout 0 = .ok (.aload_n 0, 1) := by decide +kernel
theorem dX1_areEelsAbout_1 : decode cX1_areEelsAbout 1 = .ok (.getfield 12, 3) := by decide +kernel
theorem dX1_areEelsAbout_4 : decode cX1_areEelsAbout 4 = .ok (.aload_n 0, 1) := by decide +kernel
theorem dX1_areEelsAbout_5 : decode cX1_areEelsAbout 5 = .ok (.getfield 12, 3) := by decide +kernel
theorem dX1_areEelsAbout_8 : decode cX1_areEelsAbout 8 = .ok (.getfield 69, 3) := by decide +kernel
theorem dX1_areEelsAbout_11 : decode cX1_areEelsAbout 11 = .ok (.invokevirtual 96, 3) := by decide +kernel
theorem dX1_areEelsAbout_14 : decode cX1_areEelsAbout 14 = .ok (.istore_n 1, 1) := by decide +kernel
theorem dX1_areEelsAbout_15 : decode cX1_areEelsAbout 15 = .ok (.aload_n 0, 1) := by decide +kernel
theorem dX1_areEelsAbout_16 : decode cX1_areEelsAbout 16 = .ok (.getfield 12, 3) := by decide +kernel
theorem dX1_areEelsAbout_19 : decode cX1_areEelsAbout 19 = .ok (.invokevirtual 62, 3) := by decide +kernel
theorem dX1_areEelsAbout_22 : decode cX1_areEelsAbout 22 = .ok (.istore_n 2, 1) := by decide +kernel
theorem dX1_areEelsAbout_23 : decode cX1_areEelsAbout 23 = .ok (.iload_n 1, 1) := by decide +kernel
theorem dX1_areEelsAbout_24 : decode cX1_areEelsAbout 24 = .ok (.bipush 13, 2) := by decide +kernel
theorem dX1_areEelsAbout_26 : decode cX1_areEelsAbout 26 = .ok (.if_icmp .lt 25, 3) := by decide +kernel
theorem dX1_areEelsAbout_29 : decode cX1_areEelsAbout 29 = .ok (.iload_n 1, 1) := by decide +kernel
theorem dX1_areEelsAbout_30 : decode cX1_areEelsAbout 30 = .ok (.bipush 17, 2) := by decide +kernel
theorem dX1_areEelsAbout_32 : decode cX1_areEelsAbout 32 = .ok (.if_icmp .gt 19, 3) := by decide +kernel
theorem dX1_areEelsAbout_35 : decode cX1_areEelsAbout 35 = .ok (.iload_n 2, 1) := by decide +kernel
theorem dX1_areEelsAbout_36 : decode cX1_areEelsAbout 36 = .ok (.bipush 12, 2) := by decide +kernel
theorem dX1_areEelsAbout_38 : decode cX1_areEelsAbout 38 = .ok (.if_icmp .lt 9, 3) := by decide +kernel
theorem dX1_areEelsAbout_41 : decode cX1_areEelsAbout 41 = .ok (.iload_n 2, 1) := by decide +kernel
theorem dX1_areEelsAbout_42 : decode cX1_areEelsAbout 42 = .ok (.bipush 35, 2) := by decide +kernel
theorem dX1_areEelsAbout_44 : decode cX1_areEelsAbout 44 = .ok (.if_icmp .le 7, 3) := by decide +kernel
theorem dX1_areEelsAbout_47 : decode cX1_areEelsAbout 47 = .ok (.iconst 1, 1) := by decide +kernel
theorem dX1_areEelsAbout_48 : decode cX1_areEelsAbout 48 = .ok (.goto 4, 3) := by decide +kernel
theorem dX1_areEelsAbout_51 : decode cX1_areEelsAbout 51 = .ok (.iconst 0, 1) := by decide +kernel
theorem dX1_areEelsAbout_52 : decode cX1_areEelsAbout 52 = .ok (.ireturn, 1) := by decide +kernel
theorem dX2_init_0 : decode cX2_init 0 = .ok (.aload_n 0, 1) := by decide +kernel
theorem dX2_init_1 : decode cX2_init 1 = .ok (.invokespecial 3, 3) := by decide +kernel
theorem dX2_init_4 : decode cX2_init 4 = .ok (.aload_n 0, 1) := by decide +kernel
theorem dX2_init_5 : decode cX2_init 5 = .ok (.iconst 3, 1) := by decide +kernel
theorem dX2_init_6 : decode cX2_init 6 = .ok (.newarray .float, 2) := by decide +kernel
theorem dX2_init_8 : decode cX2_init 8 = .ok (.putfield 9, 3) := by decide +kernel
theorem dX2_init_11 : decode cX2_init 11 = .ok (.aload_n 0, 1) := by decide +kernel
theorem dX2_init_12 : decode cX2_init 12 = .ok (.iconst 3, 1) := by decide +kernel
theorem dX2_init_13 : decode cX2_init 13 = .ok (.newarray .int, 2) := by decide +kernel
theorem dX2_init_15 : decode cX2_init 15 = .ok (.putfield 15, 3) := by decide +kernel
theorem dX2_init_18 : decode cX2_init 18 = .ok (.aload_n 0, 1) := by decide +kernel
theorem dX2_init_19 : decode cX2_init 19 = .ok (.iconst 3, 1) := by decide +kernel
theorem dX2_init_20 : decode cX2_init 20 = .ok (.newarray .int, 2) := by decide +kernel
theorem dX2_init_22 : decode cX2_init 22 = .ok (.putfield 19, 3) := by decide +kernel
theorem dX2_init_25 : decode cX2_init 25 = .ok (.aload_n 0, 1) := by decide +kernel
theorem dX2_init_26 : decode cX2_init 26 = .ok (.iconst 3, 1) := by decide +kernel
theorem dX2_init_27 : decode cX2_init 27 = .ok (.newarray .int, 2) := by decide +kernel
theorem dX2_init_29 : decode cX2_init 29 = .ok (.putfield 22, 3) := by decide +kernel
theorem dX2_init_32 : decode cX2_init 32 = .ok (.return_, 1) := by decide +kernel
theorem dX2_copyFrom_0 : decode cX2_copyFrom 0 = .ok (.aload_n 1, 1) := by decide +kernel
theorem dX2_copyFrom_1 : decode cX2_copyFrom 1 = .ok (.getfield 9, 3) := by decide +kernel
theorem dX2_copyFrom_4 : decode cX2_copyFrom 4 = .ok (.iconst 0, 1) := by decide +kernel
theorem dX2_copyFrom_5 : decode cX2_copyFrom 5 = .ok (.aload_n 0, 1) := by decide +kernel
theorem dX2_copyFrom_6 : decode cX2_copyFrom 6 = .ok (.getfield 9, 3) := by decide +kernel
theorem dX2_copyFrom_9 : decode cX2_copyFrom 9 = .ok (.iconst 0, 1) := by decide +kernel
theorem dX2_copyFrom_10 : decode cX2_copyFrom 10 = .ok (.iconst 3, 1) := by decide +kernel
theorem dX2_copyFrom_11 : decode cX2_copyFrom 11 = .ok (.invokestatic 25, 3) := by decide +kernel
theorem dX2_copyFrom_14 : decode cX2_copyFrom 14 = .ok (.aload_n 1, 1) := by decide +kernel
theorem dX2_copyFrom_15 : decode cX2_copyFrom 15 = .ok (.getfield 15, 3) := by decide +kernel
theorem dX2_copyFrom_18 : decode cX2_copyFrom 18 = .ok (.iconst 0, 1) := by decide +kernel
theorem dX2_copyFrom_19 : decode cX2_copyFrom 19 = .ok (.aload_n 0, 1) := by decide +kernel
theorem dX2_copyFrom_20 : decode cX2_copyFrom 20 = .ok (.getfield 15, 3) := by decide +kernel
theorem dX2_copyFrom_23 : decode cX2_copyFrom 23 = .ok (.iconst 0, 1) := by decide +kernel
theorem dX2_copyFrom_24 : decode cX2_copyFrom 24 = .ok (.iconst 3, 1) := by decide +kernel
theorem dX2_copyFrom_25 : decode cX2_copyFrom 25 = .ok (.invokestatic 25, 3) := by decide +kernel
theorem dX2_copyFrom_28 : decode cX2_copyFrom 28 = .ok (.aload_n 1, 1) := by decide +kernel
theorem dX2_copyFrom_29 : decode cX2_copyFrom 29 = .ok (.getfield 19, 3) := by decide +kernel
theorem dX2_copyFrom_32 : decode cX2_copyFrom 32 = .ok (.iconst 0, 1) := by decide +kernel
theorem dX2_copyFrom_33 : decode cX2_copyFrom 33 = .ok (.aload_n 0, 1) := by decide +kernel
theorem dX2_copyFrom_34 : decode cX2_copyFrom 34 = .ok (.getfield 19, 3) := by decide +kernel
theorem dX2_copyFrom_37 : decode cX2_copyFrom 37 = .ok (.iconst 0, 1) := by decide +kernel
theorem dX2_copyFrom_38 : decode cX2_copyFrom 38 = .ok (.iconst 3, 1) := by decide +kernel
theorem dX2_copyFrom_39 : decode cX2_copyFrom 39 = .ok (.invokestatic 25, 3) := by decide +kernel
theorem dX2_copyFrom_42 : decode cX2_copyFrom 42 = .ok (.aload_n 1, 1) := by decide +kernel
theorem dX2_copyFrom_43 : decode cX2_copyFrom 43 = .ok (.getfield 22, 3) := by decide +kernel
theorem dX2_copyFrom_46 : decode cX2_copyFrom 46 = .ok (.iconst 0, 1) := by decide +kernel
theorem dX2_copyFrom_47 : decode cX2_copyFrom 47 = .ok (.aload_n 0, 1) := by decide +kernel
theorem dX2_copyFrom_48 : decode cX2_copyFrom 48 = .ok (.getfield 22, 3) := by decide +kernel
theorem dX2_copyFrom_51 : decode cX2_copyFrom 51 = .ok (.iconst 0, 1) := by decide +kernel
theorem dX2_copyFrom_52 : decode cX2_copyFrom 52 = .ok (.iconst 3, 1) := by decide +kernel
theorem dX2_copyFrom_53 : decode cX2_copyFrom 53 = .ok (.invokestatic 25, 3) := by decide +kernel
theorem dX2_copyFrom_56 : decode cX2_copyFrom 56 = .ok (.aload_n 0, 1) := by decide +kernel
theorem dX2_copyFrom_57 : decode cX2_copyFrom 57 = .ok (.aload_n 1, 1) := by decide +kernel
theorem dX2_copyFrom_58 : decode cX2_copyFrom 58 = .ok (.getfield 31, 3) := by decide +kernel
theorem dX2_copyFrom_61 : decode cX2_copyFrom 61 = .ok (.putfield 31, 3) := by decide +kernel
theorem dX2_copyFrom_64 : decode cX2_copyFrom 64 = .ok (.return_, 1) := by decide +kernel
theorem dX2_has_0 : decode cX2_has 0 = .ok (.iload_n 1, 1) := by decide +kernel
theorem dX2_has_1 : decode cX2_has 1 = .ok (.ifCond .lt 15, 3) := by decide +kernel
theorem dX2_has_4 : decode cX2_has 4 = .ok (.iload_n 1, 1) := by decide +kernel
theorem dX2_has_5 : decode cX2_has 5 = .ok (.aload_n 0, 1) := by decide +kernel
theorem dX2_has_6 : decode cX2_has 6 = .ok (.getfield 31, 3) := by decide +kernel
theorem dX2_has_9 : decode cX2_has 9 = .ok (.if_icmp .ge 7, 3) := by decide +kernel
theorem dX2_has_12 : decode cX2_has 12 = .ok (.iconst 1, 1) := by decide +kernel
theorem dX2_has_13 : decode cX2_has 13 = .ok (.goto 4, 3) := by decide +kernel
theorem dX2_has_16 : decode cX2_has 16 = .ok (.iconst 0, 1) := by decide +kernel
theorem dX2_has_17 : decode cX2_has 17 = .ok (.ireturn, 1) := by decide +kernel
theorem dX2_isFree_0 : decode cX2_isFree 0 = .ok (.aload_n 0, 1) := by decide +kernel
theorem dX2_isFree_1 : decode cX2_isFree 1 = .ok (.getfield 15, 3) := by decide +kernel
theorem dX2_isFree_4 : decode cX2_isFree 4 = .ok (.iload_n 1, 1) := by decide +kernel
theorem dX2_isFree_5 : decode cX2_isFree 5 = .ok (.iaload, 1) := by decide +kernel
theorem dX2_isFree_6 : decode cX2_isFree 6 = .ok (.iconst (-1), 1) := by decide +kernel
theorem dX2_isFree_7 : decode cX2_isFree 7 = .ok (.if_icmp .ne 16, 3) := by decide +kernel
theorem dX2_isFree_10 : decode cX2_isFree 10 = .ok (.aload_n 0, 1) := by decide +kernel
theorem dX2_isFree_11 : decode cX2_isFree 11 = .ok (.getfield 19, 3) := by decide +kernel
theorem dX2_isFree_14 : decode cX2_isFree 14 = .ok (.iload_n 1, 1) := by decide +kernel
theorem dX2_isFree_15 : decode cX2_isFree 15 = .ok (.iaload, 1) := by decide +kernel
theorem dX2_isFree_16 : decode cX2_isFree 16 = .ok (.ifCond .ne 7, 3) := by decide +kernel
theorem dX2_isFree_19 : decode cX2_isFree 19 = .ok (.iconst 1, 1) := by decide +kernel
theorem dX2_isFree_20 : decode cX2_isFree 20 = .ok (.goto 4, 3) := by decide +kernel
theorem dX2_isFree_23 : decode cX2_isFree 23 = .ok (.iconst 0, 1) := by decide +kernel
theorem dX2_isFree_24 : decode cX2_isFree 24 = .ok (.ireturn, 1) := by decide +kernel
theorem dX2_lay_0 : decode cX2_lay 0 = .ok (.aload_n 0, 1) := by decide +kernel
theorem dX2_lay_1 : decode cX2_lay 1 = .ok (.getfield 31, 3) := by decide +kernel
theorem dX2_lay_4 : decode cX2_lay 4 = .ok (.istore_n 1, 1) := by decide +kernel
theorem dX2_lay_5 : decode cX2_lay 5 = .ok (.aload_n 0, 1) := by decide +kernel
theorem dX2_lay_6 : decode cX2_lay 6 = .ok (.getfield 15, 3) := by decide +kernel
theorem dX2_lay_9 : decode cX2_lay 9 = .ok (.iload_n 1, 1) := by decide +kernel
theorem dX2_lay_10 : decode cX2_lay 10 = .ok (.iconst (-1), 1) := by decide +kernel
theorem dX2_lay_11 : decode cX2_lay 11 = .ok (.iastore, 1) := by decide +kernel
theorem dX2_lay_12 : decode cX2_lay 12 = .ok (.aload_n 0, 1) := by decide +kernel
theorem dX2_lay_13 : decode cX2_lay 13 = .ok (.dup, 1) := by decide +kernel
theorem dX2_lay_14 : decode cX2_lay 14 = .ok (.getfield 31, 3) := by decide +kernel
theorem dX2_lay_17 : decode cX2_lay 17 = .ok (.iconst 1, 1) := by decide +kernel
theorem dX2_lay_18 : decode cX2_lay 18 = .ok (.iadd, 1) := by decide +kernel
theorem dX2_lay_19 : decode cX2_lay 19 = .ok (.putfield 31, 3) := by decide +kernel
theorem dX2_lay_22 : decode cX2_lay 22 = .ok (.iload_n 1, 1) := by decide +kernel
theorem dX2_lay_23 : decode cX2_lay 23 = .ok (.ireturn, 1) := by decide +kernel
theorem dX2_withLot_0 : decode cX2_withLot 0 = .ok (.iconst 0, 1) := by decide +kernel
theorem dX2_withLot_1 : decode cX2_withLot 1 = .ok (.istore_n 2, 1) := by decide +kernel
theorem dX2_withLot_2 : decode cX2_withLot 2 = .ok (.iload_n 2, 1) := by decide +kernel
theorem dX2_withLot_3 : decode cX2_withLot 3 = .ok (.aload_n 0, 1) := by decide +kernel
theorem dX2_withLot_4 : decode cX2_withLot 4 = .ok (.getfield 31, 3) := by decide +kernel
theorem dX2_withLot_7 : decode cX2_withLot 7 = .ok (.if_icmp .ge 21, 3) := by decide +kernel
theorem dX2_withLot_10 : decode cX2_withLot 10 = .ok (.aload_n 0, 1) := by decide +kernel
theorem dX2_withLot_11 : decode cX2_withLot 11 = .ok (.getfield 15, 3) := by decide +kernel
theorem dX2_withLot_14 : decode cX2_withLot 14 = .ok (.iload_n 2, 1) := by decide +kernel
theorem dX2_withLot_15 : decode cX2_withLot 15 = .ok (.iaload, 1) := by decide +kernel
theorem dX2_withLot_16 : decode cX2_withLot 16 = .ok (.iload_n 1, 1) := by decide +kernel
theorem dX2_withLot_17 : decode cX2_withLot 17 = .ok (.if_icmp .ne 5, 3) := by decide +kernel
theorem dX2_withLot_20 : decode cX2_withLot 20 = .ok (.iload_n 2, 1) := by decide +kernel
theorem dX2_withLot_21 : decode cX2_withLot 21 = .ok (.ireturn, 1) := by decide +kernel
theorem dX2_withLot_22 : decode cX2_withLot 22 = .ok (.iinc 2 1, 3) := by decide +kernel
theorem dX2_withLot_25 : decode cX2_withLot 25 = .ok (.goto (-23), 3) := by decide +kernel
theorem dX2_withLot_28 : decode cX2_withLot 28 = .ok (.iconst (-1), 1) := by decide +kernel
theorem dX2_withLot_29 : decode cX2_withLot 29 = .ok (.ireturn, 1) := by decide +kernel
theorem dX2_allSparks_0 : decode cX2_allSparks 0 = .ok (.iconst 0, 1) := by decide +kernel
theorem dX2_allSparks_1 : decode cX2_allSparks 1 = .ok (.istore_n 1, 1) := by decide +kernel
theorem dX2_allSparks_2 : decode cX2_allSparks 2 = .ok (.iconst 0, 1) := by decide +kernel
theorem dX2_allSparks_3 : decode cX2_allSparks 3 = .ok (.istore_n 2, 1) := by decide +kernel
theorem dX2_allSparks_4 : decode cX2_allSparks 4 = .ok (.iload_n 2, 1) := by decide +kernel
theorem dX2_allSparks_5 : decode cX2_allSparks 5 = .ok (.aload_n 0, 1) := by decide +kernel
theorem dX2_allSparks_6 : decode cX2_allSparks 6 = .ok (.getfield 31, 3) := by decide +kernel
theorem dX2_allSparks_9 : decode cX2_allSparks 9 = .ok (.if_icmp .ge 18, 3) := by decide +kernel
theorem dX2_allSparks_12 : decode cX2_allSparks 12 = .ok (.iload_n 1, 1) := by decide +kernel
theorem dX2_allSparks_13 : decode cX2_allSparks 13 = .ok (.aload_n 0, 1) := by decide +kernel
theorem dX2_allSparks_14 : decode cX2_allSparks 14 = .ok (.getfield 22, 3) := by decide +kernel
theorem dX2_allSparks_17 : decode cX2_allSparks 17 = .ok (.iload_n 2, 1) := by decide +kernel
theorem dX2_allSparks_18 : decode cX2_allSparks 18 = .ok (.iaload, 1) := by decide +kernel
theorem dX2_allSparks_19 : decode cX2_allSparks 19 = .ok (.iadd, 1) := by decide +kernel
theorem dX2_allSparks_20 : decode cX2_allSparks 20 = .ok (.istore_n 1, 1) := by decide +kernel
theorem dX2_allSparks_21 : decode cX2_allSparks 21 = .ok (.iinc 2 1, 3) := by decide +kernel
theorem dX2_allSparks_24 : decode cX2_allSparks 24 = .ok (.goto (-20), 3) := by decide +kernel
theorem dX2_allSparks_27 : decode cX2_allSparks 27 = .ok (.iload_n 1, 1) := by decide +kernel
theorem dX2_allSparks_28 : decode cX2_allSparks 28 = .ok (.ireturn, 1) := by decide +kernel
set_option maxRecDepth 20000 in
theorem ggX2_goBy_X2_dressOn : GoodIn wsX2_goBy wsX2_dressOn := goodIn_r _ [8, 2, 9, 48, 49, 50, 51, 52] (by decide +kernel) (by decide +kernel)
set_option maxRecDepth 20000 in
theorem gX2_goBy_X2_dressOn : GoodIn wsX2_goBy (wsV RX2 35 RX2 yX2_dressOn wsX2_dressOn) := goodIn_app (goodIn_of _ (by decide +kernel)) ggX2_goBy_X2_dressOn
set_option maxRecDepth 20000 in
theorem ggX2_goBy_X0_has : GoodIn wsX2_goBy wsX0_has := goodIn_r _ [14, 15, 53, 54, 55, 56, 57, 58, 59] (by decide +kernel) (by decide +kernel)
set_option maxRecDepth 20000 in
theorem gX2_goBy_X0_has : GoodIn wsX2_goBy (wsV RX2 39 RX0 yX0_has wsX0_has) := goodIn_app (goodIn_of _ (by decide +kernel)) ggX2_goBy_X0_has
set_option maxRecDepth 20000 in
theorem ggX2_goBy_X2_grind : GoodIn wsX2_goBy wsX2_grind := goodIn_r _ [19, 3, 9, 20, 21, 22, 23, 24, 25, 13, 26, 27, 28, 29, 30, 31, 32, 33, 34, 35, 36, 37, 38, 39, 40, 7, 41, 48, 49, 50, 51, 52, 53, 54, 55, 56, 57, 58, 59] (by decide +kernel) (by decide +kernel)
set_option maxRecDepth 20000 in
theorem gX2_goBy_X2_grind : GoodIn wsX2_goBy (wsV RX2 45 RX2 yX2_grind wsX2_grind) := goodIn_app (goodIn_of _ (by decide +kernel)) ggX2_goBy_X2_grind
set_option maxRecDepth 20000 in
theorem ggX2_goBy_X2_spark : GoodIn wsX2_goBy wsX2_spark := goodIn_r _ [45, 46, 47, 38, 39, 40, 7, 41, 9, 48, 49, 50, 51, 52] (by decide +kernel) (by decide +kernel)
set_option maxRecDepth 20000 in
theorem gX2_goBy_X2_spark : GoodIn wsX2_goBy (wsV RX2 49 RX2 yX2_spark wsX2_spark) := goodIn_app (goodIn_of _ (by decide +kernel)) ggX2_goBy_X2_spark
theorem dX2_goBy_0 : decode cX2_goBy 0 = .ok (.dload_n 1, 1) := by decide +kernel
theorem dX2_goBy_1 : decode cX2_goBy 1 = .ok (.dstore 5, 2) := by decide +kernel
theorem dX2_goBy_3 : decode cX2_goBy 3 = .ok (.iconst 0, 1) := by decide +kernel
theorem dX2_goBy_4 : decode cX2_goBy 4 = .ok (.istore 7, 2) := by decide +kernel
theorem dX2_goBy_6 : decode cX2_goBy 6 = .ok (.iload 7, 2) := by decide +kernel
theorem dX2_goBy_8 : decode cX2_goBy 8 = .ok (.aload_n 0, 1) := by decide +kernel
theorem dX2_goBy_9 : decode cX2_goBy 9 = .ok (.getfield 31, 3) := by decide +kernel
theorem dX2_goBy_12 : decode cX2_goBy 12 = .ok (.if_icmp .ge 88, 3) := by decide +kernel
theorem dX2_goBy_15 : decode cX2_goBy 15 = .ok (.aload_n 0, 1) := by decide +kernel
theorem dX2_goBy_16 : decode cX2_goBy 16 = .ok (.getfield 19, 3) := by decide +kernel
theorem dX2_goBy_19 : decode cX2_goBy 19 = .ok (.iload 7, 2) := by decide +kernel
theorem dX2_goBy_21 : decode cX2_goBy 21 = .ok (.iaload, 1) := by decide +kernel
theorem dX2_goBy_22 : decode cX2_goBy 22 = .ok (.ifCond .le 12, 3) := by decide +kernel
theorem dX2_goBy_25 : decode cX2_goBy 25 = .ok (.aload_n 0, 1) := by decide +kernel
theorem dX2_goBy_26 : decode cX2_goBy 26 = .ok (.iload 7, 2) := by decide +kernel
theorem dX2_goBy_28 : decode cX2_goBy 28 = .ok (.invokevirtual 35, 3) := by decide +kernel
theorem dX2_goBy_31 : decode cX2_goBy 31 = .ok (.goto 63, 3) := by decide +kernel
theorem dX2_goBy_34 : decode cX2_goBy 34 = .ok (.iload_n 3, 1) := by decide +kernel
theorem dX2_goBy_35 : decode cX2_goBy 35 = .ok (.ifCond .eq 36, 3) := by decide +kernel
theorem dX2_goBy_38 : decode cX2_goBy 38 = .ok (.aload 4, 2) := by decide +kernel
theorem dX2_goBy_40 : decode cX2_goBy 40 = .ok (.aload_n 0, 1) := by decide +kernel
theorem dX2_goBy_41 : decode cX2_goBy 41 = .ok (.getfield 15, 3) := by decide +kernel
theorem dX2_goBy_44 : decode cX2_goBy 44 = .ok (.iload 7, 2) := by decide +kernel
theorem dX2_goBy_46 : decode cX2_goBy 46 = .ok (.iaload, 1) := by decide +kernel
theorem dX2_goBy_47 : decode cX2_goBy 47 = .ok (.invokevirtual 39, 3) := by decide +kernel
theorem dX2_goBy_50 : decode cX2_goBy 50 = .ok (.ifCond .eq 21, 3) := by decide +kernel
theorem dX2_goBy_53 : decode cX2_goBy 53 = .ok (.dload 5, 2) := by decide +kernel
theorem dX2_goBy_55 : decode cX2_goBy 55 = .ok (.aload_n 0, 1) := by decide +kernel
theorem dX2_goBy_56 : decode cX2_goBy 56 = .ok (.iload 7, 2) := by decide +kernel
theorem dX2_goBy_58 : decode cX2_goBy 58 = .ok (.dload 5, 2) := by decide +kernel
theorem dX2_goBy_60 : decode cX2_goBy 60 = .ok (.aload 4, 2) := by decide +kernel
theorem dX2_goBy_62 : decode cX2_goBy 62 = .ok (.invokevirtual 45, 3) := by decide +kernel
theorem dX2_goBy_65 : decode cX2_goBy 65 = .ok (.dsub, 1) := by decide +kernel
theorem dX2_goBy_66 : decode cX2_goBy 66 = .ok (.dstore 5, 2) := by decide +kernel
theorem dX2_goBy_68 : decode cX2_goBy 68 = .ok (.goto 26, 3) := by decide +kernel
theorem dX2_goBy_71 : decode cX2_goBy 71 = .ok (.iload_n 3, 1) := by decide +kernel
theorem dX2_goBy_72 : decode cX2_goBy 72 = .ok (.ifCond .eq 22, 3) := by decide +kernel
theorem dX2_goBy_75 : decode cX2_goBy 75 = .ok (.dload 5, 2) := by decide +kernel
theorem dX2_goBy_77 : decode cX2_goBy 77 = .ok (.dconst 1, 1) := by decide +kernel
theorem dX2_goBy_78 : decode cX2_goBy 78 = .ok (.dcmp .l, 1) := by decide +kernel
theorem dX2_goBy_79 : decode cX2_goBy 79 = .ok (.ifCond .le 15, 3) := by decide +kernel
theorem dX2_goBy_82 : decode cX2_goBy 82 = .ok (.aload_n 0, 1) := by decide +kernel
theorem dX2_goBy_83 : decode cX2_goBy 83 = .ok (.iload 7, 2) := by decide +kernel
theorem dX2_goBy_85 : decode cX2_goBy 85 = .ok (.invokevirtual 49, 3) := by decide +kernel
theorem dX2_goBy_88 : decode cX2_goBy 88 = .ok (.dload 5, 2) := by decide +kernel
theorem dX2_goBy_90 : decode cX2_goBy 90 = .ok (.dconst 1, 1) := by decide +kernel
theorem dX2_goBy_91 : decode cX2_goBy 91 = .ok (.dsub, 1) := by decide +kernel
theorem dX2_goBy_92 : decode cX2_goBy 92 = .ok (.dstore 5, 2) := by decide +kernel
theorem dX2_goBy_94 : decode cX2_goBy 94 = .ok (.iinc 7 1, 3) := by decide +kernel
theorem dX2_goBy_97 : decode cX2_goBy 97 = .ok (.goto (-91), 3) := by decide +kernel
theorem dX2_goBy_100 : decode cX2_goBy 100 = .ok (.return_, 1) := by decide +kernel
theorem dX2_dressOn_0 : decode cX2_dressOn 0 = .ok (.aload_n 0, 1) := by decide +kernel
theorem dX2_dressOn_1 : decode cX2_dressOn 1 = .ok (.getfield 19, 3) := by decide +kernel
theorem dX2_dressOn_4 : decode cX2_dressOn 4 = .ok (.iload_n 1, 1) := by decide +kernel
theorem dX2_dressOn_5 : decode cX2_dressOn 5 = .ok (.dup2, 1) := by decide +kernel
theorem dX2_dressOn_6 : decode cX2_dressOn 6 = .ok (.iaload, 1) := by decide +kernel
theorem dX2_dressOn_7 : decode cX2_dressOn 7 = .ok (.iconst 1, 1) := by decide +kernel
theorem dX2_dressOn_8 : decode cX2_dressOn 8 = .ok (.isub, 1) := by decide +kernel
theorem dX2_dressOn_9 : decode cX2_dressOn 9 = .ok (.iastore, 1) := by decide +kernel
theorem dX2_dressOn_10 : decode cX2_dressOn 10 = .ok (.aload_n 0, 1) := by decide +kernel
theorem dX2_dressOn_11 : decode cX2_dressOn 11 = .ok (.getfield 19, 3) := by decide +kernel
theorem dX2_dressOn_14 : decode cX2_dressOn 14 = .ok (.iload_n 1, 1) := by decide +kernel
theorem dX2_dressOn_15 : decode cX2_dressOn 15 = .ok (.iaload, 1) := by decide +kernel
theorem dX2_dressOn_16 : decode cX2_dressOn 16 = .ok (.ifCond .ne 10, 3) := by decide +kernel
theorem dX2_dressOn_19 : decode cX2_dressOn 19 = .ok (.aload_n 0, 1) := by decide +kernel
theorem dX2_dressOn_20 : decode cX2_dressOn 20 = .ok (.getfield 9, 3) := by decide +kernel
theorem dX2_dressOn_23 : decode cX2_dressOn 23 = .ok (.iload_n 1, 1) := by decide +kernel
theorem dX2_dressOn_24 : decode cX2_dressOn 24 = .ok (.fconst 0, 1) := by decide +kernel
theorem dX2_dressOn_25 : decode cX2_dressOn 25 = .ok (.fastore, 1) := by decide +kernel
theorem dX2_dressOn_26 : decode cX2_dressOn 26 = .ok (.return_, 1) := by decide +kernel
set_option maxRecDepth 20000 in
theorem ggX2_spark_X2_blunt : GoodIn wsX2_spark wsX2_blunt := goodIn_r _ [7, 8, 9, 10, 11, 12, 13] (by decide +kernel) (by decide +kernel)
set_option maxRecDepth 20000 in
theorem gX2_spark_X2_blunt : GoodIn wsX2_spark (wsV RX2 53 RX2 yX2_blunt wsX2_blunt) := goodIn_app (goodIn_of _ (by decide +kernel)) ggX2_spark_X2_blunt
theorem dX2_spark_0 : decode cX2_spark 0 = .ok (.aload_n 0, 1) := by decide +kernel
theorem dX2_spark_1 : decode cX2_spark 1 = .ok (.getfield 22, 3) := by decide +kernel
theorem dX2_spark_4 : decode cX2_spark 4 = .ok (.iload_n 1, 1) := by decide +kernel
theorem dX2_spark_5 : decode cX2_spark 5 = .ok (.dup2, 1) := by decide +kernel
theorem dX2_spark_6 : decode cX2_spark 6 = .ok (.iaload, 1) := by decide +kernel
theorem dX2_spark_7 : decode cX2_spark 7 = .ok (.iconst 1, 1) := by decide +kernel
theorem dX2_spark_8 : decode cX2_spark 8 = .ok (.iadd, 1) := by decide +kernel
theorem dX2_spark_9 : decode cX2_spark 9 = .ok (.iastore, 1) := by decide +kernel
theorem dX2_spark_10 : decode cX2_spark 10 = .ok (.aload_n 0, 1) := by decide +kernel
theorem dX2_spark_11 : decode cX2_spark 11 = .ok (.iload_n 1, 1) := by decide +kernel
theorem dX2_spark_12 : decode cX2_spark 12 = .ok (.ldc 52, 2) := by decide +kernel
theorem dX2_spark_14 : decode cX2_spark 14 = .ok (.invokevirtual 53, 3) := by decide +kernel
theorem dX2_spark_17 : decode cX2_spark 17 = .ok (.return_, 1) := by decide +kernel
set_option maxRecDepth 20000 in
theorem ggX2_grind_X0_grind : GoodIn wsX2_grind wsX0_grind := goodIn_r _ [10, 11, 12, 13, 14, 15, 16, 17, 18, 19, 32, 33, 34, 35, 36, 37, 38] (by decide +kernel) (by decide +kernel)
set_option maxRecDepth 20000 in
theorem gX2_grind_X0_grind : GoodIn wsX2_grind (wsV RX2 57 RX0 yX0_grind wsX0_grind) := goodIn_app (goodIn_of _ (by decide +kernel)) ggX2_grind_X0_grind
set_option maxRecDepth 20000 in
theorem ggX2_grind_X5_hardnessOf : GoodIn wsX2_grind wsX5_hardnessOf := goodIn_r _ [21] (by decide +kernel) (by decide +kernel)
set_option maxRecDepth 20000 in
theorem gX2_grind_X5_hardnessOf_n63 : GoodIn wsX2_grind (wsX5_hardnessOf) := ggX2_grind_X5_hardnessOf
set_option maxRecDepth 20000 in
theorem ggX2_grind_X2_blunt : GoodIn wsX2_grind wsX2_blunt := goodIn_r _ [26, 2, 27, 28, 29, 30, 31] (by decide +kernel) (by decide +kernel)
set_option maxRecDepth 20000 in
theorem gX2_grind_X2_blunt : GoodIn wsX2_grind (wsV RX2 53 RX2 yX2_blunt wsX2_blunt) := goodIn_app (goodIn_of _ (by decide +kernel)) ggX2_grind_X2_blunt
theorem dX2_grind_0 : decode cX2_grind 0 = .ok (.aload_n 0, 1) := by decide +kernel
theorem dX2_grind_1 : decode cX2_grind 1 = .ok (.getfield 15, 3) := by decide +kernel
theorem dX2_grind_4 : decode cX2_grind 4 = .ok (.iload_n 1, 1) := by decide +kernel
theorem dX2_grind_5 : decode cX2_grind 5 = .ok (.iaload, 1) := by decide +kernel
theorem dX2_grind_6 : decode cX2_grind 6 = .ok (.istore 5, 2) := by decide +kernel
theorem dX2_grind_8 : decode cX2_grind 8 = .ok (.dconst 1, 1) := by decide +kernel
theorem dX2_grind_9 : decode cX2_grind 9 = .ok (.aload_n 0, 1) := by decide +kernel
theorem dX2_grind_10 : decode cX2_grind 10 = .ok (.getfield 9, 3) := by decide +kernel
theorem dX2_grind_13 : decode cX2_grind 13 = .ok (.iload_n 1, 1) := by decide +kernel
theorem dX2_grind_14 : decode cX2_grind 14 = .ok (.faload, 1) := by decide +kernel
theorem dX2_grind_15 : decode cX2_grind 15 = .ok (.f2d, 1) := by decide +kernel
theorem dX2_grind_16 : decode cX2_grind 16 = .ok (.dadd, 1) := by decide +kernel
theorem dX2_grind_17 : decode cX2_grind 17 = .ok (.dstore 6, 2) := by decide +kernel
theorem dX2_grind_19 : decode cX2_grind 19 = .ok (.dload 6, 2) := by decide +kernel
theorem dX2_grind_21 : decode cX2_grind 21 = .ok (.dload_n 2, 1) := by decide +kernel
