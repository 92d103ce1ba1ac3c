theorem dX1_init_0 : decode cX1_init 0 = .ok (.aload_n 0, 1) := by decide +kernel
theorem dX1_init_1 : decode cX1_init 1 = .ok (.invokespecial 3, 3) := by decide +kernel
theorem dX1_init_4 : decode cX1_init 4 = .ok (.aload_n 0, 1) := by decide +kernel
theorem dX1_init_5 : decode cX1_init 5 = .ok (.bipush 6, 2) := by decide +kernel
theorem dX1_init_7 : decode cX1_init 7 = .ok (.anewarray 9, 3) := by decide +kernel
theorem dX1_init_10 : decode cX1_init 10 = .ok (.putfield 11, 3) := by decide +kernel
theorem dX1_init_13 : decode cX1_init 13 = .ok (.aload_n 0, 1) := by decide +kernel
theorem dX1_init_14 : decode cX1_init 14 = .ok (.iconst 3, 1) := by decide +kernel
theorem dX1_init_15 : decode cX1_init 15 = .ok (.newarray .int, 2) := by decide +kernel
theorem dX1_init_17 : decode cX1_init 17 = .ok (.putfield 15, 3) := by decide +kernel
theorem dX1_init_20 : decode cX1_init 20 = .ok (.aload_n 0, 1) := by decide +kernel
theorem dX1_init_21 : decode cX1_init 21 = .ok (.bipush 12, 2) := by decide +kernel
theorem dX1_init_23 : decode cX1_init 23 = .ok (.newarray .int, 2) := by decide +kernel
theorem dX1_init_25 : decode cX1_init 25 = .ok (.putfield 19, 3) := by decide +kernel
theorem dX1_init_28 : decode cX1_init 28 = .ok (.aload_n 0, 1) := by decide +kernel
theorem dX1_init_29 : decode cX1_init 29 = .ok (.bipush 12, 2) := by decide +kernel
theorem dX1_init_31 : decode cX1_init 31 = .ok (.newarray .int, 2) := by decide +kernel
theorem dX1_init_33 : decode cX1_init 33 = .ok (.putfield 22, 3) := by decide +kernel
theorem dX1_init_36 : decode cX1_init 36 = .ok (.aload_n 0, 1) := by decide +kernel
theorem dX1_init_37 : decode cX1_init 37 = .ok (.new 9, 3) := by decide +kernel
theorem dX1_init_40 : decode cX1_init 40 = .ok (.dup, 1) := by decide +kernel
theorem dX1_init_41 : decode cX1_init 41 = .ok (.iconst 2, 1) := by decide +kernel
theorem dX1_init_42 : decode cX1_init 42 = .ok (.iconst 2, 1) := by decide +kernel
theorem dX1_init_43 : decode cX1_init 43 = .ok (.bipush 30, 2) := by decide +kernel
theorem dX1_init_45 : decode cX1_init 45 = .ok (.invokespecial 25, 3) := by decide +kernel
theorem dX1_init_48 : decode cX1_init 48 = .ok (.putfield 28, 3) := by decide +kernel
theorem dX1_init_51 : decode cX1_init 51 = .ok (.iconst 0, 1) := by decide +kernel
theorem dX1_init_52 : decode cX1_init 52 = .ok (.istore_n 1, 1) := by decide +kernel
theorem dX1_init_53 : decode cX1_init 53 = .ok (.iload_n 1, 1) := by decide +kernel
theorem dX1_init_54 : decode cX1_init 54 = .ok (.bipush 12, 2) := by decide +kernel
theorem dX1_init_56 : decode cX1_init 56 = .ok (.if_icmp .ge 16, 3) := by decide +kernel
theorem dX1_init_59 : decode cX1_init 59 = .ok (.aload_n 0, 1) := by decide +kernel
theorem dX1_init_60 : decode cX1_init 60 = .ok (.getfield 19, 3) := by decide +kernel
theorem dX1_init_63 : decode cX1_init 63 = .ok (.iload_n 1, 1) := by decide +kernel
theorem dX1_init_64 : decode cX1_init 64 = .ok (.iconst 4, 1) := by decide +kernel
theorem dX1_init_65 : decode cX1_init 65 = .ok (.iastore, 1) := by decide +kernel
theorem dX1_init_66 : decode cX1_init 66 = .ok (.iinc 1 1, 3) := by decide +kernel
theorem dX1_init_69 : decode cX1_init 69 = .ok (.goto (-16), 3) := by decide +kernel
theorem dX1_init_72 : decode cX1_init 72 = .ok (.return_, 1) := by decide +kernel
set_option maxRecDepth 20000 in
theorem ggX1_build_X1_isWithin : GoodIn wsX1_build wsX1_isWithin := goodIn_r _ [13] (by decide +kernel) (by decide +kernel)
set_option maxRecDepth 20000 in
theorem gX1_build_X1_isWithin : GoodIn wsX1_build (va_wsS RX1 32 yX1_isWithin wsX1_isWithin) := goodIn_app (goodIn_of _ (by decide +kernel)) ggX1_build_X1_isWithin
set_option maxRecDepth 20000 in
theorem ggX1_build_X0_init : GoodIn wsX1_build wsX0_init := goodIn_r _ [16, 17, 18, 19, 20, 21, 22, 23, 24, 25, 26, 27, 28, 36, 37, 38, 39, 40, 41, 42, 43, 44, 45] (by decide +kernel) (by decide +kernel)
set_option maxRecDepth 20000 in
theorem gX1_build_X0_init : GoodIn wsX1_build (wsX0_init) := ggX1_build_X0_init
theorem dX1_build_0 : decode cX1_build 0 = .ok (.iload_n 1, 1) := by decide +kernel
theorem dX1_build_1 : decode cX1_build 1 = .ok (.iconst 2, 1) := by decide +kernel
theorem dX1_build_2 : decode cX1_build 2 = .ok (.bipush 10, 2) := by decide +kernel
theorem dX1_build_4 : decode cX1_build 4 = .ok (.invokestatic 32, 3) := by decide +kernel
theorem dX1_build_7 : decode cX1_build 7 = .ok (.ifCond .eq 24, 3) := by decide +kernel
theorem dX1_build_10 : decode cX1_build 10 = .ok (.iload_n 2, 1) := by decide +kernel
theorem dX1_build_11 : decode cX1_build 11 = .ok (.iconst 2, 1) := by decide +kernel
theorem dX1_build_12 : decode cX1_build 12 = .ok (.bipush 6, 2) := by decide +kernel
theorem dX1_build_14 : decode cX1_build 14 = .ok (.invokestatic 32, 3) := by decide +kernel
theorem dX1_build_17 : decode cX1_build 17 = .ok (.ifCond .eq 14, 3) := by decide +kernel
theorem dX1_build_20 : decode cX1_build 20 = .ok (.iload_n 3, 1) := by decide +kernel
theorem dX1_build_21 : decode cX1_build 21 = .ok (.bipush 30, 2) := by decide +kernel
theorem dX1_build_23 : decode cX1_build 23 = .ok (.bipush 60, 2) := by decide +kernel
theorem dX1_build_25 : decode cX1_build 25 = .ok (.invokestatic 32, 3) := by decide +kernel
theorem dX1_build_28 : decode cX1_build 28 = .ok (.ifCond .ne 13, 3) := by decide +kernel
theorem dX1_build_31 : decode cX1_build 31 = .ok (.new 36, 3) := by decide +kernel
theorem dX1_build_34 : decode cX1_build 34 = .ok (.dup, 1) := by decide +kernel
theorem dX1_build_35 : decode cX1_build 35 = .ok (.ldc 38, 2) := by decide +kernel
theorem dX1_build_37 : decode cX1_build 37 = .ok (.invokespecial 40, 3) := by decide +kernel
theorem dX1_build_40 : decode cX1_build 40 = .ok (.athrow, 1) := by decide +kernel
theorem dX1_build_41 : decode cX1_build 41 = .ok (.aload_n 0, 1) := by decide +kernel
theorem dX1_build_42 : decode cX1_build 42 = .ok (.getfield 43, 3) := by decide +kernel
theorem dX1_build_45 : decode cX1_build 45 = .ok (.bipush 6, 2) := by decide +kernel
theorem dX1_build_47 : decode cX1_build 47 = .ok (.if_icmp .lt 13, 3) := by decide +kernel
theorem dX1_build_50 : decode cX1_build 50 = .ok (.new 47, 3) := by decide +kernel
theorem dX1_build_53 : decode cX1_build 53 = .ok (.dup, 1) := by decide +kernel
theorem dX1_build_54 : decode cX1_build 54 = .ok (.ldc 49, 2) := by decide +kernel
theorem dX1_build_56 : decode cX1_build 56 = .ok (.invokespecial 51, 3) := by decide +kernel
theorem dX1_build_59 : decode cX1_build 59 = .ok (.athrow, 1) := by decide +kernel
theorem dX1_build_60 : decode cX1_build 60 = .ok (.aload_n 0, 1) := by decide +kernel
theorem dX1_build_61 : decode cX1_build 61 = .ok (.getfield 43, 3) := by decide +kernel
theorem dX1_build_64 : decode cX1_build 64 = .ok (.istore 4, 2) := by decide +kernel
theorem dX1_build_66 : decode cX1_build 66 = .ok (.aload_n 0, 1) := by decide +kernel
theorem dX1_build_67 : decode cX1_build 67 = .ok (.getfield 11, 3) := by decide +kernel
theorem dX1_build_70 : decode cX1_build 70 = .ok (.iload 4, 2) := by decide +kernel
theorem dX1_build_72 : decode cX1_build 72 = .ok (.new 9, 3) := by decide +kernel
theorem dX1_build_75 : decode cX1_build 75 = .ok (.dup, 1) := by decide +kernel
theorem dX1_build_76 : decode cX1_build 76 = .ok (.iload_n 1, 1) := by decide +kernel
theorem dX1_build_77 : decode cX1_build 77 = .ok (.iload_n 2, 1) := by decide +kernel
theorem dX1_build_78 : decode cX1_build 78 = .ok (.iload_n 3, 1) := by decide +kernel
theorem dX1_build_79 : decode cX1_build 79 = .ok (.invokespecial 25, 3) := by decide +kernel
theorem dX1_build_82 : decode cX1_build 82 = .ok (.aastore, 1) := by decide +kernel
theorem dX1_build_83 : decode cX1_build 83 = .ok (.aload_n 0, 1) := by decide +kernel
theorem dX1_build_84 : decode cX1_build 84 = .ok (.dup, 1) := by decide +kernel
theorem dX1_build_85 : decode cX1_build 85 = .ok (.getfield 43, 3) := by decide +kernel
theorem dX1_build_88 : decode cX1_build 88 = .ok (.iconst 1, 1) := by decide +kernel
theorem dX1_build_89 : decode cX1_build 89 = .ok (.iadd, 1) := by decide +kernel
theorem dX1_build_90 : decode cX1_build 90 = .ok (.putfield 43, 3) := by decide +kernel
theorem dX1_build_93 : decode cX1_build 93 = .ok (.iload 4, 2) := by decide +kernel
theorem dX1_build_95 : decode cX1_build 95 = .ok (.ireturn, 1) := by decide +kernel
set_option maxRecDepth 20000 in
theorem ggX1_bring_X1_isKind : GoodIn wsX1_bring wsX1_isKind := goodIn_r _ [11, 12, 13, 10, 14] (by decide +kernel) (by decide +kernel)
set_option maxRecDepth 20000 in
theorem gX1_bring_X1_isKind : GoodIn wsX1_bring (va_wsS RX1 52 yX1_isKind wsX1_isKind) := goodIn_app (goodIn_of _ (by decide +kernel)) ggX1_bring_X1_isKind
set_option maxRecDepth 20000 in
theorem ggX1_bring_X1_isWithin : GoodIn wsX1_bring wsX1_isWithin := goodIn_r _ [14] (by decide +kernel) (by decide +kernel)
set_option maxRecDepth 20000 in
theorem gX1_bring_X1_isWithin : GoodIn wsX1_bring (va_wsS RX1 32 yX1_isWithin wsX1_isWithin) := goodIn_app (goodIn_of _ (by decide +kernel)) ggX1_bring_X1_isWithin
theorem dX1_bring_0 : decode cX1_bring 0 = .ok (.iload_n 1, 1) := by decide +kernel
theorem dX1_bring_1 : decode cX1_bring 1 = .ok (.invokestatic 52, 3) := by decide +kernel
theorem dX1_bring_4 : decode cX1_bring 4 = .ok (.ifCond .ne 13, 3) := by decide +kernel
theorem dX1_bring_7 : decode cX1_bring 7 = .ok (.new 56, 3) := by decide +kernel
theorem dX1_bring_10 : decode cX1_bring 10 = .ok (.dup, 1) := by decide +kernel
theorem dX1_bring_11 : decode cX1_bring 11 = .ok (.ldc 58, 2) := by decide +kernel
theorem dX1_bring_13 : decode cX1_bring 13 = .ok (.invokespecial 60, 3) := by decide +kernel
theorem dX1_bring_16 : decode cX1_bring 16 = .ok (.athrow, 1) := by decide +kernel
theorem dX1_bring_17 : decode cX1_bring 17 = .ok (.iload_n 2, 1) := by decide +kernel
theorem dX1_bring_18 : decode cX1_bring 18 = .ok (.iconst 1, 1) := by decide +kernel
theorem dX1_bring_19 : decode cX1_bring 19 = .ok (.sipush 500, 3) := by decide +kernel
theorem dX1_bring_22 : decode cX1_bring 22 = .ok (.invokestatic 32, 3) := by decide +kernel
theorem dX1_bring_25 : decode cX1_bring 25 = .ok (.ifCond .ne 13, 3) := by decide +kernel
theorem dX1_bring_28 : decode cX1_bring 28 = .ok (.new 36, 3) := by decide +kernel
theorem dX1_bring_31 : decode cX1_bring 31 = .ok (.dup, 1) := by decide +kernel
theorem dX1_bring_32 : decode cX1_bring 32 = .ok (.ldc 61, 2) := by decide +kernel
theorem dX1_bring_34 : decode cX1_bring 34 = .ok (.invokespecial 40, 3) := by decide +kernel
theorem dX1_bring_37 : decode cX1_bring 37 = .ok (.athrow, 1) := by decide +kernel
theorem dX1_bring_38 : decode cX1_bring 38 = .ok (.aload_n 0, 1) := by decide +kernel
theorem dX1_bring_39 : decode cX1_bring 39 = .ok (.getfield 15, 3) := by decide +kernel
theorem dX1_bring_42 : decode cX1_bring 42 = .ok (.iload_n 1, 1) := by decide +kernel
theorem dX1_bring_43 : decode cX1_bring 43 = .ok (.iaload, 1) := by decide +kernel
theorem dX1_bring_44 : decode cX1_bring 44 = .ok (.iload_n 2, 1) := by decide +kernel
theorem dX1_bring_45 : decode cX1_bring 45 = .ok (.iadd, 1) := by decide +kernel
theorem dX1_bring_46 : decode cX1_bring 46 = .ok (.sipush 500, 3) := by decide +kernel
theorem dX1_bring_49 : decode cX1_bring 49 = .ok (.if_icmp .le 13, 3) := by decide +kernel
theorem dX1_bring_52 : decode cX1_bring 52 = .ok (.new 47, 3) := by decide +kernel
theorem dX1_bring_55 : decode cX1_bring 55 = .ok (.dup, 1) := by decide +kernel
theorem dX1_bring_56 : decode cX1_bring 56 = .ok (.ldc 63, 2) := by decide +kernel
theorem dX1_bring_58 : decode cX1_bring 58 = .ok (.invokespecial 51, 3) := by decide +kernel
theorem dX1_bring_61 : decode cX1_bring 61 = .ok (.athrow, 1) := by decide +kernel
theorem dX1_bring_62 : decode cX1_bring 62 = .ok (.aload_n 0, 1) := by decide +kernel
theorem dX1_bring_63 : decode cX1_bring 63 = .ok (.getfield 15, 3) := by decide +kernel
theorem dX1_bring_66 : decode cX1_bring 66 = .ok (.iload_n 1, 1) := by decide +kernel
theorem dX1_bring_67 : decode cX1_bring 67 = .ok (.dup2, 1) := by decide +kernel
theorem dX1_bring_68 : decode cX1_bring 68 = .ok (.iaload, 1) := by decide +kernel
theorem dX1_bring_69 : decode cX1_bring 69 = .ok (.iload_n 2, 1) := by decide +kernel
theorem dX1_bring_70 : decode cX1_bring 70 = .ok (.iadd, 1) := by decide +kernel
theorem dX1_bring_71 : decode cX1_bring 71 = .ok (.iastore, 1) := by decide +kernel
theorem dX1_bring_72 : decode cX1_bring 72 = .ok (.aload_n 0, 1) := by decide +kernel
theorem dX1_bring_73 : decode cX1_bring 73 = .ok (.getfield 15, 3) := by decide +kernel
theorem dX1_bring_76 : decode cX1_bring 76 = .ok (.iload_n 1, 1) := by decide +kernel
theorem dX1_bring_77 : decode cX1_bring 77 = .ok (.iaload, 1) := by decide +kernel
theorem dX1_bring_78 : decode cX1_bring 78 = .ok (.ireturn, 1) := by decide +kernel
set_option maxRecDepth 20000 in
theorem ggX1_setWeather_X1_isWithin : GoodIn wsX1_setWeather wsX1_isWithin := goodIn_r _ [10] (by decide +kernel) (by decide +kernel)
set_option maxRecDepth 20000 in
theorem gX1_setWeather_X1_isWithin : GoodIn wsX1_setWeather (va_wsS RX1 32 yX1_isWithin wsX1_isWithin) := goodIn_app (goodIn_of _ (by decide +kernel)) ggX1_setWeather_X1_isWithin
theorem dX1_setWeather_0 : decode cX1_setWeather 0 = .ok (.iload_n 1, 1) := by decide +kernel
theorem dX1_setWeather_1 : decode cX1_setWeather 1 = .ok (.iconst 0, 1) := by decide +kernel
theorem dX1_setWeather_2 : decode cX1_setWeather 2 = .ok (.bipush 11, 2) := by decide +kernel
theorem dX1_setWeather_4 : decode cX1_setWeather 4 = .ok (.invokestatic 32, 3) := by decide +kernel
theorem dX1_setWeather_7 : decode cX1_setWeather 7 = .ok (.ifCond .ne 13, 3) := by decide +kernel
theorem dX1_setWeather_10 : decode cX1_setWeather 10 = .ok (.new 56, 3) := by decide +kernel
theorem dX1_setWeather_13 : decode cX1_setWeather 13 = .ok (.dup, 1) := by decide +kernel
theorem dX1_setWeather_14 : decode cX1_setWeather 14 = .ok (.ldc 65, 2) := by decide +kernel
theorem dX1_setWeather_16 : decode cX1_setWeather 16 = .ok (.invokespecial 60, 3) := by decide +kernel
theorem dX1_setWeather_19 : decode cX1_setWeather 19 = .ok (.athrow, 1) := by decide +kernel
theorem dX1_setWeather_20 : decode cX1_setWeather 20 = .ok (.iload_n 2, 1) := by decide +kernel
theorem dX1_setWeather_21 : decode cX1_setWeather 21 = .ok (.iconst 0, 1) := by decide +kernel
theorem dX1_setWeather_22 : decode cX1_setWeather 22 = .ok (.bipush 9, 2) := by decide +kernel
theorem dX1_setWeather_24 : decode cX1_setWeather 24 = .ok (.invokestatic 32, 3) := by decide +kernel
theorem dX1_setWeather_27 : decode cX1_setWeather 27 = .ok (.ifCond .eq 13, 3) := by decide +kernel
theorem dX1_setWeather_30 : decode cX1_setWeather 30 = .ok (.iload_n 3, 1) := by decide +kernel
theorem dX1_setWeather_31 : decode cX1_setWeather 31 = .ok (.iconst 0, 1) := by decide +kernel
theorem dX1_setWeather_32 : decode cX1_setWeather 32 = .ok (.bipush 9, 2) := by decide +kernel
theorem dX1_setWeather_34 : decode cX1_setWeather 34 = .ok (.invokestatic 32, 3) := by decide +kernel
theorem dX1_setWeather_37 : decode cX1_setWeather 37 = .ok (.ifCond .ne 13, 3) := by decide +kernel
theorem dX1_setWeather_40 : decode cX1_setWeather 40 = .ok (.new 36, 3) := by decide +kernel
theorem dX1_setWeather_43 : decode cX1_setWeather 43 = .ok (.dup, 1) := by decide +kernel
theorem dX1_setWeather_44 : decode cX1_setWeather 44 = .ok (.ldc 67, 2) := by decide +kernel
theorem dX1_setWeather_46 : decode cX1_setWeather 46 = .ok (.invokespecial 40, 3) := by decide +kernel
theorem dX1_setWeather_49 : decode cX1_setWeather 49 = .ok (.athrow, 1) := by decide +kernel
theorem dX1_setWeather_50 : decode cX1_setWeather 50 = .ok (.bipush 10, 2) := by decide +kernel
theorem dX1_setWeather_52 : decode cX1_setWeather 52 = .ok (.aload_n 0, 1) := by decide +kernel
theorem dX1_setWeather_53 : decode cX1_setWeather 53 = .ok (.getfield 19, 3) := by decide +kernel
theorem dX1_setWeather_56 : decode cX1_setWeather 56 = .ok (.iload_n 1, 1) := by decide +kernel
theorem dX1_setWeather_57 : decode cX1_setWeather 57 = .ok (.iaload, 1) := by decide +kernel
theorem dX1_setWeather_58 : decode cX1_setWeather 58 = .ok (.imul, 1) := by decide +kernel
theorem dX1_setWeather_59 : decode cX1_setWeather 59 = .ok (.aload_n 0, 1) := by decide +kernel
theorem dX1_setWeather_60 : decode cX1_setWeather 60 = .ok (.getfield 22, 3) := by decide +kernel
theorem dX1_setWeather_63 : decode cX1_setWeather 63 = .ok (.iload_n 1, 1) := by decide +kernel
theorem dX1_setWeather_64 : decode cX1_setWeather 64 = .ok (.iaload, 1) := by decide +kernel
theorem dX1_setWeather_65 : decode cX1_setWeather 65 = .ok (.iadd, 1) := by decide +kernel
theorem dX1_setWeather_66 : decode cX1_setWeather 66 = .ok (.istore 4, 2) := by decide +kernel
theorem dX1_setWeather_68 : decode cX1_setWeather 68 = .ok (.aload_n 0, 1) := by decide +kernel
theorem dX1_setWeather_69 : decode cX1_setWeather 69 = .ok (.getfield 19, 3) := by decide +kernel
theorem dX1_setWeather_72 : decode cX1_setWeather 72 = .ok (.iload_n 1, 1) := by decide +kernel
theorem dX1_setWeather_73 : decode cX1_setWeather 73 = .ok (.iload_n 2, 1) := by decide +kernel
theorem dX1_setWeather_74 : decode cX1_setWeather 74 = .ok (.iastore, 1) := by decide +kernel
theorem dX1_setWeather_75 : decode cX1_setWeather 75 = .ok (.aload_n 0, 1) := by decide +kernel
theorem dX1_setWeather_76 : decode cX1_setWeather 76 = .ok (.getfield 22, 3) := by decide +kernel
theorem dX1_setWeather_79 : decode cX1_setWeather 79 = .ok (.iload_n 1, 1) := by decide +kernel
theorem dX1_setWeather_80 : decode cX1_setWeather 80 = .ok (.iload_n 3, 1) := by decide +kernel
theorem dX1_setWeather_81 : decode cX1_setWeather 81 = .ok (.iastore, 1) := by decide +kernel
theorem dX1_setWeather_82 : decode cX1_setWeather 82 = .ok (.iload 4, 2) := by decide +kernel
theorem dX1_setWeather_84 : decode cX1_setWeather 84 = .ok (.ireturn, 1) := by decide +kernel
set_option maxRecDepth 20000 in
theorem ggX1_lay_X1_roofAt : GoodIn wsX1_lay wsX1_roofAt := goodIn_r _ [12, 13, 14, 15, 11, 16, 62, 63, 64, 65, 66, 67, 68] (by decide +kernel) (by decide +kernel)
set_option maxRecDepth 20000 in
theorem gX1_lay_X1_roofAt : GoodIn wsX1_lay (wsV RX1 69 RX1 yX1_roofAt wsX1_roofAt) := goodIn_app (goodIn_of _ (by decide +kernel)) ggX1_lay_X1_roofAt
set_option maxRecDepth 20000 in
theorem ggX1_lay_X0_hasPlace : GoodIn wsX1_lay wsX0_hasPlace := goodIn_r _ [21, 22, 23, 24, 25, 20, 26, 27, 69, 70, 71, 72, 73, 74, 75, 76, 77, 78] (by decide +kernel) (by decide +kernel)
set_option maxRecDepth 20000 in
theorem gX1_lay_X0_hasPlace : GoodIn wsX1_lay (wsV RX1 73 RX0 yX0_hasPlace wsX0_hasPlace) := goodIn_app (goodIn_of _ (by decide +kernel)) ggX1_lay_X0_hasPlace
set_option maxRecDepth 20000 in
theorem ggX1_lay_X1_isKind : GoodIn wsX1_lay wsX1_isKind := goodIn_r _ [30, 14, 15, 11, 16] (by decide +kernel) (by decide +kernel)
set_option maxRecDepth 20000 in
theorem gX1_lay_X1_isKind : GoodIn wsX1_lay (va_wsS RX1 52 yX1_isKind wsX1_isKind) := goodIn_app (goodIn_of _ (by decide +kernel)) ggX1_lay_X1_isKind
set_option maxRecDepth 20000 in
theorem ggX1_lay_X1_isYealm : GoodIn wsX1_lay wsX1_isYealm := goodIn_r _ [33, 14, 15, 11, 16] (by decide +kernel) (by decide +kernel)
set_option maxRecDepth 20000 in
theorem gX1_lay_X1_isYealm : GoodIn wsX1_lay (va_wsS RX1 79 yX1_isYealm wsX1_isYealm) := goodIn_app (goodIn_of _ (by decide +kernel)) ggX1_lay_X1_isYealm
set_option maxRecDepth 20000 in
theorem ggX1_lay_X0_canCarry : GoodIn wsX1_lay wsX0_canCarry := goodIn_r _ [37, 38, 39, 40, 20, 41, 42, 43, 44, 45, 27, 22, 46, 69, 70, 71, 72, 73, 74, 75, 76, 77, 78] (by decide +kernel) (by decide +kernel)
set_option maxRecDepth 20000 in
theorem gX1_lay_X0_canCarry : GoodIn wsX1_lay (wsV RX1 84 RX0 yX0_canCarry wsX0_canCarry) := goodIn_app (goodIn_of _ (by decide +kernel)) ggX1_lay_X0_canCarry
set_option maxRecDepth 20000 in
theorem ggX1_lay_X1_bundlesFor : GoodIn wsX1_lay wsX1_bundlesFor := goodIn_r _ [49] (by decide +kernel) (by decide +kernel)
set_option maxRecDepth 20000 in
theorem gX1_lay_X1_bundlesFor : GoodIn wsX1_lay (va_wsS RX1 87 yX1_bundlesFor wsX1_bundlesFor) := goodIn_app (goodIn_of _ (by decide +kernel)) ggX1_lay_X1_bundlesFor
set_option maxRecDepth 20000 in
theorem ggX1_lay_X0_putYealm : GoodIn wsX1_lay wsX0_putYealm := goodIn_r _ [53, 54, 46, 55, 56, 57, 18, 19, 20, 21, 22, 23, 24, 25, 26, 27, 58, 59, 60, 61, 69, 70, 71, 72, 73, 74, 75, 76, 77, 78] (by decide +kernel) (by decide +kernel)
set_option maxRecDepth 20000 in
theorem gX1_lay_X0_putYealm : GoodIn wsX1_lay (wsV RX1 93 RX0 yX0_putYealm wsX0_putYealm) := goodIn_app (goodIn_of _ (by decide +kernel)) ggX1_lay_X0_putYealm
theorem dX1_lay_0 : decode cX1_lay 0 = .ok (.aload_n 0, 1) := by decide +kernel
theorem dX1_lay_1 : decode cX1_lay 1 = .ok (.iload_n 1, 1) := by decide +kernel
theorem dX1_lay_2 : decode cX1_lay 2 = .ok (.invokevirtual 69, 3) := by decide +kernel
theorem dX1_lay_5 : decode cX1_lay 5 = .ok (.astore 7, 2) := by decide +kernel
theorem dX1_lay_7 : decode cX1_lay 7 = .ok (.aload 7, 2) := by decide +kernel
theorem dX1_lay_9 : decode cX1_lay 9 = .ok (.ifnull 21, 3) := by decide +kernel
theorem dX1_lay_12 : decode cX1_lay 12 = .ok (.aload 7, 2) := by decide +kernel
theorem dX1_lay_14 : decode cX1_lay 14 = .ok (.iload_n 2, 1) := by decide +kernel
theorem dX1_lay_15 : decode cX1_lay 15 = .ok (.iload_n 3, 1) := by decide +kernel
theorem dX1_lay_16 : decode cX1_lay 16 = .ok (.invokevirtual 73, 3) := by decide +kernel
theorem dX1_lay_19 : decode cX1_lay 19 = .ok (.ifCond .eq 11, 3) := by decide +kernel
theorem dX1_lay_22 : decode cX1_lay 22 = .ok (.iload 4, 2) := by decide +kernel
theorem dX1_lay_24 : decode cX1_lay 24 = .ok (.invokestatic 52, 3) := by decide +kernel
theorem dX1_lay_27 : decode cX1_lay 27 = .ok (.ifCond .ne 13, 3) := by decide +kernel
theorem dX1_lay_30 : decode cX1_lay 30 = .ok (.new 56, 3) := by decide +kernel
theorem dX1_lay_33 : decode cX1_lay 33 = .ok (.dup, 1) := by decide +kernel
theorem dX1_lay_34 : decode cX1_lay 34 = .ok (.ldc 77, 2) := by decide +kernel
theorem dX1_lay_36 : decode cX1_lay 36 = .ok (.invokespecial 60, 3) := by decide +kernel
theorem dX1_lay_39 : decode cX1_lay 39 = .ok (.athrow, 1) := by decide +kernel
theorem dX1_lay_40 : decode cX1_lay 40 = .ok (.iload 5, 2) := by decide +kernel
theorem dX1_lay_42 : decode cX1_lay 42 = .ok (.iload 6, 2) := by decide +kernel
theorem dX1_lay_44 : decode cX1_lay 44 = .ok (.invokestatic 79, 3) := by decide +kernel
theorem dX1_lay_47 : decode cX1_lay 47 = .ok (.ifCond .ne 13, 3) := by decide +kernel
theorem dX1_lay_50 : decode cX1_lay 50 = .ok (.new 36, 3) := by decide +kernel
theorem dX1_lay_53 : decode cX1_lay 53 = .ok (.dup, 1) := by decide +kernel
theorem dX1_lay_54 : decode cX1_lay 54 = .ok (.ldc 82, 2) := by decide +kernel
theorem dX1_lay_56 : decode cX1_lay 56 = .ok (.invokespecial 40, 3) := by decide +kernel
theorem dX1_lay_59 : decode cX1_lay 59 = .ok (.athrow, 1) := by decide +kernel
theorem dX1_lay_60 : decode cX1_lay 60 = .ok (.aload 7, 2) := by decide +kernel
theorem dX1_lay_62 : decode cX1_lay 62 = .ok (.iload_n 2, 1) := by decide +kernel
theorem dX1_lay_63 : decode cX1_lay 63 = .ok (.iload_n 3, 1) := by decide +kernel
theorem dX1_lay_64 : decode cX1_lay 64 = .ok (.invokevirtual 84, 3) := by decide +kernel
theorem dX1_lay_67 : decode cX1_lay 67 = .ok (.ifCond .eq 18, 3) := by decide +kernel
theorem dX1_lay_70 : decode cX1_lay 70 = .ok (.aload_n 0, 1) := by decide +kernel
theorem dX1_lay_71 : decode cX1_lay 71 = .ok (.getfield 15, 3) := by decide +kernel
theorem dX1_lay_74 : decode cX1_lay 74 = .ok (.iload 4, 2) := by decide +kernel
theorem dX1_lay_76 : decode cX1_lay 76 = .ok (.iaload, 1) := by decide +kernel
theorem dX1_lay_77 : decode cX1_lay 77 = .ok (.iload 5, 2) := by decide +kernel
theorem dX1_lay_79 : decode cX1_lay 79 = .ok (.invokestatic 87, 3) := by decide +kernel
theorem dX1_lay_82 : decode cX1_lay 82 = .ok (.if_icmp .ge 13, 3) := by decide +kernel
theorem dX1_lay_85 : decode cX1_lay 85 = .ok (.new 47, 3) := by decide +kernel
theorem dX1_lay_88 : decode cX1_lay 88 = .ok (.dup, 1) := by decide +kernel
theorem dX1_lay_89 : decode cX1_lay 89 = .ok (.ldc 91, 2) := by decide +kernel
theorem dX1_lay_91 : decode cX1_lay 91 = .ok (.invokespecial 51, 3) := by decide +kernel
theorem dX1_lay_94 : decode cX1_lay 94 = .ok (.athrow, 1) := by decide +kernel
theorem dX1_lay_95 : decode cX1_lay 95 = .ok (.aload_n 0, 1) := by decide +kernel
theorem dX1_lay_96 : decode cX1_lay 96 = .ok (.getfield 15, 3) := by decide +kernel
theorem dX1_lay_99 : decode cX1_lay 99 = .ok (.iload 4, 2) := by decide +kernel
theorem dX1_lay_101 : decode cX1_lay 101 = .ok (.dup2, 1) := by decide +kernel
theorem dX1_lay_102 : decode cX1_lay 102 = .ok (.iaload, 1) := by decide +kernel
theorem dX1_lay_103 : decode cX1_lay 103 = .ok (.iload 5, 2) := by decide +kernel
theorem dX1_lay_105 : decode cX1_lay 105 = .ok (.invokestatic 87, 3) := by decide +kernel
theorem dX1_lay_108 : decode cX1_lay 108 = .ok (.isub, 1) := by decide +kernel
theorem dX1_lay_109 : decode cX1_lay 109 = .ok (.iastore, 1) := by decide +kernel
theorem dX1_lay_110 : decode cX1_lay 110 = .ok (.aload 7, 2) := by decide +kernel
theorem dX1_lay_112 : decode cX1_lay 112 = .ok (.iload_n 2, 1) := by decide +kernel
theorem dX1_lay_113 : decode cX1_lay 113 = .ok (.iload_n 3, 1) := by decide +kernel
theorem dX1_lay_114 : decode cX1_lay 114 = .ok (.iload 4, 2) := by decide +kernel
theorem dX1_lay_116 : decode cX1_lay 116 = .ok (.iload 5, 2) := by decide +kernel
theorem dX1_lay_118 : decode cX1_lay 118 = .ok (.iload 6, 2) := by decide +kernel
theorem dX1_lay_120 : decode cX1_lay 120 = .ok (.invokevirtual 93, 3) := by decide +kernel
theorem dX1_lay_123 : decode cX1_lay 123 = .ok (.iload 5, 2) := by decide +kernel
theorem dX1_lay_125 : decode cX1_lay 125 = .ok (.invokestatic 87, 3) := by decide +kernel
theorem dX1_lay_128 : decode cX1_lay 128 = .ok (.ireturn, 1) := by decide +kernel
set_option maxRecDepth 20000 in
theorem ggX1_layCourse_X1_roofAt : GoodIn wsX1_layCourse wsX1_roofAt := goodIn_r _ [10, 11, 12, 13, 9, 14, 64, 65, 66, 67, 68, 69, 70] (by decide +kernel) (by decide +kernel)
set_option maxRecDepth 20000 in
theorem gX1_layCourse_X1_roofAt : GoodIn wsX1_layCourse (wsV RX1 69 RX1 yX1_roofAt wsX1_roofAt) := goodIn_app (goodIn_of _ (by decide +kernel)) ggX1_layCourse_X1_roofAt
set_option maxRecDepth 20000 in
theorem ggX1_layCourse_X0_hasCourse : GoodIn wsX1_layCourse wsX0_hasCourse := goodIn_r _ [19, 20, 71, 72, 73, 74, 75, 76, 77, 78, 79, 80] (by decide +kernel) (by decide +kernel)
set_option maxRecDepth 20000 in
theorem gX1_layCourse_X0_hasCourse : GoodIn wsX1_layCourse (wsV RX1 97 RX0 yX0_hasCourse wsX0_hasCourse) := goodIn_app (goodIn_of _ (by decide +kernel)) ggX1_layCourse_X0_hasCourse
set_option maxRecDepth 20000 in
theorem ggX1_layCourse_X1_isKind : GoodIn wsX1_layCourse wsX1_isKind := goodIn_r _ [23, 12, 13, 9, 14] (by decide +kernel) (by decide +kernel)
set_option maxRecDepth 20000 in
theorem gX1_layCourse_X1_isKind : GoodIn wsX1_layCourse (va_wsS RX1 52 yX1_isKind wsX1_isKind) := goodIn_app (goodIn_of _ (by decide +kernel)) ggX1_layCourse_X1_isKind
set_option maxRecDepth 20000 in
theorem ggX1_layCourse_X1_isYealm : GoodIn wsX1_layCourse wsX1_isYealm := goodIn_r _ [26, 12, 13, 9, 14] (by decide +kernel) (by decide +kernel)
set_option maxRecDepth 20000 in
theorem gX1_layCourse_X1_isYealm : GoodIn wsX1_layCourse (va_wsS RX1 79 yX1_isYealm wsX1_isYealm) := goodIn_app (goodIn_of _ (by decide +kernel)) ggX1_layCourse_X1_isYealm
set_option maxRecDepth 20000 in
theorem ggX1_layCourse_X0_wide : GoodIn wsX1_layCourse wsX0_wide := goodIn_r _ [30, 31, 71, 72, 73, 74, 75, 76, 77, 78, 79, 80] (by decide +kernel) (by decide +kernel)
set_option maxRecDepth 20000 in
theorem gX1_layCourse_X0_wide : GoodIn wsX1_layCourse (wsV RX1 102 RX0 yX0_wide wsX0_wide) := goodIn_app (goodIn_of _ (by decide +kernel)) ggX1_layCourse_X0_wide
set_option maxRecDepth 20000 in
theorem ggX1_layCourse_X0_canCarry : GoodIn wsX1_layCourse wsX0_canCarry := goodIn_r _ [35, 36, 37, 38, 18, 39, 40, 41, 42, 43, 20, 31, 44, 71, 72, 73, 74, 75, 76, 77, 78, 79, 80] (by decide +kernel) (by decide +kernel)
set_option maxRecDepth 20000 in
theorem gX1_layCourse_X0_canCarry : GoodIn wsX1_layCourse (wsV RX1 84 RX0 yX0_canCarry wsX0_canCarry) := goodIn_app (goodIn_of _ (by decide +kernel)) ggX1_layCourse_X0_canCarry
set_option maxRecDepth 20000 in
theorem ggX1_layCourse_X1_bundlesFor : GoodIn wsX1_layCourse wsX1_bundlesFor := goodIn_r _ [47] (by decide +kernel) (by decide +kernel)
set_option maxRecDepth 20000 in
theorem gX1_layCourse_X1_bundlesFor : GoodIn wsX1_layCourse (va_wsS RX1 87 yX1_bundlesFor wsX1_bundlesFor) := goodIn_app (goodIn_of _ (by decide +kernel)) ggX1_layCourse_X1_bundlesFor
set_option maxRecDepth 20000 in
theorem ggX1_layCourse_X0_putYealm : GoodIn wsX1_layCourse wsX0_putYealm := goodIn_r _ [51, 52, 44, 53, 54, 55, 56, 57, 18, 58, 31, 59, 16, 17, 19, 20, 60, 61, 62, 63, 71, 72, 73, 74, 75, 76, 77, 78, 79, 80] (by decide +kernel) (by decide +kernel)
set_option maxRecDepth 20000 in
theorem gX1_layCourse_X0_putYealm : GoodIn wsX1_layCourse (wsV RX1 93 RX0 yX0_putYealm wsX0_putYealm) := goodIn_app (goodIn_of _ (by decide +kernel)) ggX1_layCourse_X0_putYealm
theorem dX1_layCourse_0 : decode cX1_layCourse 0 = .ok (.aload_n 0, 1) := by decide +kernel
theorem dX1_layCourse_1 : decode cX1_layCourse 1 = .ok (.iload_n 1, 1) := by decide +kernel
theorem dX1_layCourse_2 : decode cX1_layCourse 2 = .ok (.invokevirtual 69, 3) := by decide +kernel
theorem dX1_layCourse_5 : decode cX1_layCourse 5 = .ok (.astore 6, 2) := by decide +kernel
theorem dX1_layCourse_7 : decode cX1_layCourse 7 = .ok (.aload 6, 2) := by decide +kernel
theorem dX1_layCourse_9 : decode cX1_layCourse 9 = .ok (.ifnull 19, 3) := by decide +kernel
theorem dX1_layCourse_12 : decode cX1_layCourse 12 = .ok (.aload 6, 2) := by decide +kernel
theorem dX1_layCourse_14 : decode cX1_layCourse 14 = .ok (.iload_n 2, 1) := by decide +kernel
theorem dX1_layCourse_15 : decode cX1_layCourse 15 = .ok (.invokevirtual 97, 3) := by decide +kernel
theorem dX1_layCourse_18 : decode cX1_layCourse 18 = .ok (.ifCond .eq 10, 3) := by decide +kernel
theorem dX1_layCourse_21 : decode cX1_layCourse 21 = .ok (.iload_n 3, 1) := by decide +kernel
theorem dX1_layCourse_22 : decode cX1_layCourse 22 = .ok (.invokestatic 52, 3) := by decide +kernel
theorem dX1_layCourse_25 : decode cX1_layCourse 25 = .ok (.ifCond .ne 13, 3) := by decide +kernel
theorem dX1_layCourse_28 : decode cX1_layCourse 28 = .ok (.new 56, 3) := by decide +kernel
theorem dX1_layCourse_31 : decode cX1_layCourse 31 = .ok (.dup, 1) := by decide +kernel
theorem dX1_layCourse_32 : decode cX1_layCourse 32 = .ok (.ldc 100, 2) := by decide +kernel
theorem dX1_layCourse_34 : decode cX1_layCourse 34 = .ok (.invokespecial 60, 3) := by decide +kernel
theorem dX1_layCourse_37 : decode cX1_layCourse 37 = .ok (.athrow, 1) := by decide +kernel
theorem dX1_layCourse_38 : decode cX1_layCourse 38 = .ok (.iload 4, 2) := by decide +kernel
theorem dX1_layCourse_40 : decode cX1_layCourse 40 = .ok (.iload 5, 2) := by decide +kernel
theorem dX1_layCourse_42 : decode cX1_layCourse 42 = .ok (.invokestatic 79, 3) := by decide +kernel
theorem dX1_layCourse_45 : decode cX1_layCourse 45 = .ok (.ifCond .ne 13, 3) := by decide +kernel
theorem dX1_layCourse_48 : decode cX1_layCourse 48 = .ok (.new 36, 3) := by decide +kernel
theorem dX1_layCourse_51 : decode cX1_layCourse 51 = .ok (.dup, 1) := by decide +kernel
theorem dX1_layCourse_52 : decode cX1_layCourse 52 = .ok (.ldc 82, 2) := by decide +kernel
theorem dX1_layCourse_54 : decode cX1_layCourse 54 = .ok (.invokespecial 40, 3) := by decide +kernel
theorem dX1_layCourse_57 : decode cX1_layCourse 57 = .ok (.athrow, 1) := by decide +kernel
theorem dX1_layCourse_58 : decode cX1_layCourse 58 = .ok (.iconst 0, 1) := by decide +kernel
theorem dX1_layCourse_59 : decode cX1_layCourse 59 = .ok (.istore 7, 2) := by decide +kernel
theorem dX1_layCourse_61 : decode cX1_layCourse 61 = .ok (.iconst 0, 1) := by decide +kernel
theorem dX1_layCourse_62 : decode cX1_layCourse 62 = .ok (.istore 8, 2) := by decide +kernel
theorem dX1_layCourse_64 : decode cX1_layCourse 64 = .ok (.iload 8, 2) := by decide +kernel
theorem dX1_layCourse_66 : decode cX1_layCourse 66 = .ok (.aload 6, 2) := by decide +kernel
theorem dX1_layCourse_68 : decode cX1_layCourse 68 = .ok (.invokevirtual 102, 3) := by decide +kernel
theorem dX1_layCourse_71 : decode cX1_layCourse 71 = .ok (.if_icmp .ge 64, 3) := by decide +kernel
theorem dX1_layCourse_74 : decode cX1_layCourse 74 = .ok (.aload 6, 2) := by decide +kernel
theorem dX1_layCourse_76 : decode cX1_layCourse 76 = .ok (.iload_n 2, 1) := by decide +kernel
theorem dX1_layCourse_77 : decode cX1_layCourse 77 = .ok (.iload 8, 2) := by decide +kernel
theorem dX1_layCourse_79 : decode cX1_layCourse 79 = .ok (.invokevirtual 84, 3) := by decide +kernel
theorem dX1_layCourse_82 : decode cX1_layCourse 82 = .ok (.ifCond .eq 47, 3) := by decide +kernel
theorem dX1_layCourse_85 : decode cX1_layCourse 85 = .ok (.aload_n 0, 1) := by decide +kernel
theorem dX1_layCourse_86 : decode cX1_layCourse 86 = .ok (.getfield 15, 3) := by decide +kernel
theorem dX1_layCourse_89 : decode cX1_layCourse 89 = .ok (.iload_n 3, 1) := by decide +kernel
theorem dX1_layCourse_90 : decode cX1_layCourse 90 = .ok (.iaload, 1) := by decide +kernel
theorem dX1_layCourse_91 : decode cX1_layCourse 91 = .ok (.iload 4, 2) := by decide +kernel
theorem dX1_layCourse_93 : decode cX1_layCourse 93 = .ok (.invokestatic 87, 3) := by decide +kernel
theorem dX1_layCourse_96 : decode cX1_layCourse 96 = .ok (.if_icmp .lt 33, 3) := by decide +kernel
theorem dX1_layCourse_99 : decode cX1_layCourse 99 = .ok (.aload_n 0, 1) := by decide +kernel
theorem dX1_layCourse_100 : decode cX1_layCourse 100 = .ok (.getfield 15, 3) := by decide +kernel
theorem dX1_layCourse_103 : decode cX1_layCourse 103 = .ok (.iload_n 3, 1) := by decide +kernel
theorem dX1_layCourse_104 : decode cX1_layCourse 104 = .ok (.dup2, 1) := by decide +kernel
theorem dX1_layCourse_105 : decode cX1_layCourse 105 = .ok (.iaload, 1) := by decide +kernel
theorem dX1_layCourse_106 : decode cX1_layCourse 106 = .ok (.iload 4, 2) := by decide +kernel
theorem dX1_layCourse_108 : decode cX1_layCourse 108 = .ok (.invokestatic 87, 3) := by decide +kernel
theorem dX1_layCourse_111 : decode cX1_layCourse 111 = .ok (.isub, 1) := by decide +kernel
theorem dX1_layCourse_112 : decode cX1_layCourse 112 = .ok (.iastore, 1) := by decide +kernel
theorem dX1_layCourse_113 : decode cX1_layCourse 113 = .ok (.aload 6, 2) := by decide +kernel
theorem dX1_layCourse_115 : decode cX1_layCourse 115 = .ok (.iload_n 2, 1) := by decide +kernel
theorem dX1_layCourse_116 : decode cX1_layCourse 116 = .ok (.iload 8, 2) := by decide +kernel
theorem dX1_layCourse_118 : decode cX1_layCourse 118 = .ok (.iload_n 3, 1) := by decide +kernel
theorem dX1_layCourse_119 : decode cX1_layCourse 119 = .ok (.iload 4, 2) := by decide +kernel
theorem dX1_layCourse_121 : decode cX1_layCourse 121 = .ok (.iload 5, 2) := by decide +kernel
theorem dX1_layCourse_123 : decode cX1_layCourse 123 = .ok (.invokevirtual 93, 3) := by decide +kernel
theorem dX1_layCourse_126 : decode cX1_layCourse 126 = .ok (.iinc 7 1, 3) := by decide +kernel
theorem dX1_layCourse_129 : decode cX1_layCourse 129 = .ok (.iinc 8 1, 3) := by decide +kernel
theorem dX1_layCourse_132 : decode cX1_layCourse 132 = .ok (.goto (-68), 3) := by decide +kernel
theorem dX1_layCourse_135 : decode cX1_layCourse 135 = .ok (.iload 7, 2) := by decide +kernel
theorem dX1_layCourse_137 : decode cX1_layCourse 137 = .ok (.ireturn, 1) := by decide +kernel
set_option maxRecDepth 20000 in
theorem ggX1_mend_X1_roofAt : GoodIn wsX1_mend wsX1_roofAt := goodIn_r _ [10, 11, 12, 13, 9, 14, 58, 59, 60, 61, 62, 63, 64] (by decide +kernel) (by decide +kernel)
set_option maxRecDepth 20000 in
theorem gX1_mend_X1_roofAt : GoodIn wsX1_mend (wsV RX1 69 RX1 yX1_roofAt wsX1_roofAt) := goodIn_app (goodIn_of _ (by decide +kernel)) ggX1_mend_X1_roofAt
set_option maxRecDepth 20000 in
theorem ggX1_mend_X0_hasPlace : GoodIn wsX1_mend wsX0_hasPlace := goodIn_r _ [19, 20, 21, 22, 23, 18, 24, 25, 65, 66, 67, 68, 69, 70, 71, 72, 73, 74] (by decide +kernel) (by decide +kernel)
set_option maxRecDepth 20000 in
theorem gX1_mend_X0_hasPlace : GoodIn wsX1_mend (wsV RX1 73 RX0 yX0_hasPlace wsX0_hasPlace) := goodIn_app (goodIn_of _ (by decide +kernel)) ggX1_mend_X0_hasPlace
set_option maxRecDepth 20000 in
theorem ggX1_mend_X0_kindAt : GoodIn wsX1_mend wsX0_kindAt := goodIn_r _ [29, 30, 31, 32, 33, 18, 34, 35, 36, 37, 38, 25, 20, 39, 40, 41, 42, 43, 65, 66, 67, 68, 69, 70, 71, 72, 73, 74] (by decide +kernel) (by decide +kernel)
set_option maxRecDepth 20000 in
theorem gX1_mend_X0_kindAt : GoodIn wsX1_mend (wsV RX1 108 RX0 yX0_kindAt wsX0_kindAt) := goodIn_app (goodIn_of _ (by decide +kernel)) ggX1_mend_X0_kindAt
set_option maxRecDepth 20000 in
theorem ggX1_mend_X1_isKind : GoodIn wsX1_mend wsX1_isKind := goodIn_r _ [46, 12, 13, 9, 14] (by decide +kernel) (by decide +kernel)
set_option maxRecDepth 20000 in
theorem gX1_mend_X1_isKind : GoodIn wsX1_mend (va_wsS RX1 52 yX1_isKind wsX1_isKind) := goodIn_app (goodIn_of _ (by decide +kernel)) ggX1_mend_X1_isKind
set_option maxRecDepth 20000 in
theorem ggX1_mend_X0_improve : GoodIn wsX1_mend wsX0_improve := goodIn_r _ [50, 51, 52, 53, 54, 55, 56, 39, 31, 32, 33, 18, 34, 35, 36, 37, 38, 25, 20, 40, 41, 42, 43, 65, 66, 67, 68, 69, 70, 71, 72, 73, 74] (by decide +kernel) (by decide +kernel)
set_option maxRecDepth 20000 in
theorem gX1_mend_X0_improve : GoodIn wsX1_mend (wsV RX1 114 RX0 yX0_improve wsX0_improve) := goodIn_app (goodIn_of _ (by decide +kernel)) ggX1_mend_X0_improve
set_option maxRecDepth 20000 in
theorem ggX1_mend_X0_thicknessAt : GoodIn wsX1_mend wsX0_thicknessAt := goodIn_r _ [38, 25, 20, 39, 65, 66, 67, 68, 69, 70, 71, 72, 73, 74] (by decide +kernel) (by decide +kernel)
set_option maxRecDepth 20000 in
theorem gX1_mend_X0_thicknessAt : GoodIn wsX1_mend (wsV RX1 118 RX0 yX0_thicknessAt wsX0_thicknessAt) := goodIn_app (goodIn_of _ (by decide +kernel)) ggX1_mend_X0_thicknessAt
theorem dX1_mend_0 : decode cX1_mend 0 = .ok (.aload_n 0, 1) := by decide +kernel
theorem dX1_mend_1 : decode cX1_mend 1 = .ok (.iload_n 1, 1) := by decide +kernel
theorem dX1_mend_2 : decode cX1_mend 2 = .ok (.invokevirtual 69, 3) := by decide +kernel
theorem dX1_mend_5 : decode cX1_mend 5 = .ok (.astore 4, 2) := by decide +kernel
theorem dX1_mend_7 : decode cX1_mend 7 = .ok (.aload 4, 2) := by decide +kernel
theorem dX1_mend_9 : decode cX1_mend 9 = .ok (.ifnull 13, 3) := by decide +kernel
theorem dX1_mend_12 : decode cX1_mend 12 = .ok (.aload 4, 2) := by decide +kernel
theorem dX1_mend_14 : decode cX1_mend 14 = .ok (.iload_n 2, 1) := by decide +kernel
theorem dX1_mend_15 : decode cX1_mend 15 = .ok (.iload_n 3, 1) := by decide +kernel
theorem dX1_mend_16 : decode cX1_mend 16 = .ok (.invokevirtual 73, 3) := by decide +kernel
theorem dX1_mend_19 : decode cX1_mend 19 = .ok (.ifCond .ne 13, 3) := by decide +kernel
theorem dX1_mend_22 : decode cX1_mend 22 = .ok (.new 56, 3) := by decide +kernel
theorem dX1_mend_25 : decode cX1_mend 25 = .ok (.dup, 1) := by decide +kernel
theorem dX1_mend_26 : decode cX1_mend 26 = .ok (.ldc 106, 2) := by decide +kernel
theorem dX1_mend_28 : decode cX1_mend 28 = .ok (.invokespecial 60, 3) := by decide +kernel
theorem dX1_mend_31 : decode cX1_mend 31 = .ok (.athrow, 1) := by decide +kernel
theorem dX1_mend_32 : decode cX1_mend 32 = .ok (.aload 4, 2) := by decide +kernel
theorem dX1_mend_34 : decode cX1_mend 34 = .ok (.iload_n 2, 1) := by decide +kernel
theorem dX1_mend_35 : decode cX1_mend 35 = .ok (.iload_n 3, 1) := by decide +kernel
theorem dX1_mend_36 : decode cX1_mend 36 = .ok (.invokevirtual 108, 3) := by decide +kernel
theorem dX1_mend_39 : decode cX1_mend 39 = .ok (.istore 5, 2) := by decide +kernel
theorem dX1_mend_41 : decode cX1_mend 41 = .ok (.iload 5, 2) := by decide +kernel
theorem dX1_mend_43 : decode cX1_mend 43 = .ok (.invokestatic 52, 3) := by decide +kernel
theorem dX1_mend_46 : decode cX1_mend 46 = .ok (.ifCond .eq 14, 3) := by decide +kernel
theorem dX1_mend_49 : decode cX1_mend 49 = .ok (.aload_n 0, 1) := by decide +kernel
theorem dX1_mend_50 : decode cX1_mend 50 = .ok (.getfield 15, 3) := by decide +kernel
theorem dX1_mend_53 : decode cX1_mend 53 = .ok (.iload 5, 2) := by decide +kernel
theorem dX1_mend_55 : decode cX1_mend 55 = .ok (.iaload, 1) := by decide +kernel
theorem dX1_mend_56 : decode cX1_mend 56 = .ok (.iconst 3, 1) := by decide +kernel
theorem dX1_mend_57 : decode cX1_mend 57 = .ok (.if_icmp .ge 13, 3) := by decide +kernel
theorem dX1_mend_60 : decode cX1_mend 60 = .ok (.new 47, 3) := by decide +kernel
theorem dX1_mend_63 : decode cX1_mend 63 = .ok (.dup, 1) := by decide +kernel
theorem dX1_mend_64 : decode cX1_mend 64 = .ok (.ldc 112, 2) := by decide +kernel
theorem dX1_mend_66 : decode cX1_mend 66 = .ok (.invokespecial 51, 3) := by decide +kernel
theorem dX1_mend_69 : decode cX1_mend 69 = .ok (.athrow, 1) := by decide +kernel
theorem dX1_mend_70 : decode cX1_mend 70 = .ok (.aload_n 0, 1) := by decide +kernel
theorem dX1_mend_71 : decode cX1_mend 71 = .ok (.getfield 15, 3) := by decide +kernel
theorem dX1_mend_74 : decode cX1_mend 74 = .ok (.iload 5, 2) := by decide +kernel
theorem dX1_mend_76 : decode cX1_mend 76 = .ok (.dup2, 1) := by decide +kernel
theorem dX1_mend_77 : decode cX1_mend 77 = .ok (.iaload, 1) := by decide +kernel
theorem dX1_mend_78 : decode cX1_mend 78 = .ok (.iconst 3, 1) := by decide +kernel
theorem dX1_mend_79 : decode cX1_mend 79 = .ok (.isub, 1) := by decide +kernel
theorem dX1_mend_80 : decode cX1_mend 80 = .ok (.iastore, 1) := by decide +kernel
theorem dX1_mend_81 : decode cX1_mend 81 = .ok (.aload 4, 2) := by decide +kernel
theorem dX1_mend_83 : decode cX1_mend 83 = .ok (.iload_n 2, 1) := by decide +kernel
theorem dX1_mend_84 : decode cX1_mend 84 = .ok (.iload_n 3, 1) := by decide +kernel
theorem dX1_mend_85 : decode cX1_mend 85 = .ok (.invokevirtual 114, 3) := by decide +kernel
theorem dX1_mend_88 : decode cX1_mend 88 = .ok (.aload 4, 2) := by decide +kernel
theorem dX1_mend_90 : decode cX1_mend 90 = .ok (.iload_n 2, 1) := by decide +kernel
theorem dX1_mend_91 : decode cX1_mend 91 = .ok (.iload_n 3, 1) := by decide +kernel
theorem dX1_mend_92 : decode cX1_mend 92 = .ok (.invokevirtual 118, 3) := by decide +kernel
theorem dX1_mend_95 : decode cX1_mend 95 = .ok (.ireturn, 1) := by decide +kernel
set_option maxRecDepth 20000 in
theorem ggX1_bind_X1_roofAt : GoodIn wsX1_bind wsX1_roofAt := goodIn_r _ [10, 11, 12, 13, 9, 14, 26, 27, 28, 29, 30, 31, 32] (by decide +kernel) (by decide +kernel)
set_option maxRecDepth 20000 in
theorem gX1_bind_X1_roofAt : GoodIn wsX1_bind (wsV RX1 69 RX1 yX1_roofAt wsX1_roofAt) := goodIn_app (goodIn_of _ (by decide +kernel)) ggX1_bind_X1_roofAt
set_option maxRecDepth 20000 in
theorem ggX1_bind_X0_wide : GoodIn wsX1_bind wsX0_wide := goodIn_r _ [19, 20, 33, 34, 35, 36, 37, 38, 39, 40, 41, 42] (by decide +kernel) (by decide +kernel)
set_option maxRecDepth 20000 in
theorem gX1_bind_X0_wide : GoodIn wsX1_bind (wsV RX1 102 RX0 yX0_wide wsX0_wide) := goodIn_app (goodIn_of _ (by decide +kernel)) ggX1_bind_X0_wide
set_option maxRecDepth 20000 in
theorem ggX1_bind_X0_renewRidge : GoodIn wsX1_bind wsX0_renewRidge := goodIn_r _ [24, 25, 33, 34, 35, 36, 37, 38, 39, 40, 41, 42] (by decide +kernel) (by decide +kernel)
set_option maxRecDepth 20000 in
theorem gX1_bind_X0_renewRidge : GoodIn wsX1_bind (wsV RX1 125 RX0 yX0_renewRidge wsX0_renewRidge) := goodIn_app (goodIn_of _ (by decide +kernel)) ggX1_bind_X0_renewRidge
theorem dX1_bind_0 : decode cX1_bind 0 = .ok (.aload_n 0, 1) := by decide +kernel
theorem dX1_bind_1 : decode cX1_bind 1 = .ok (.iload_n 1, 1) := by decide +kernel
theorem dX1_bind_2 : decode cX1_bind 2 = .ok (.invokevirtual 69, 3) := by decide +kernel
theorem dX1_bind_5 : decode cX1_bind 5 = .ok (.astore_n 2, 1) := by decide +kernel
theorem dX1_bind_6 : decode cX1_bind 6 = .ok (.aload_n 2, 1) := by decide +kernel
theorem dX1_bind_7 : decode cX1_bind 7 = .ok (.ifnonnull 13, 3) := by decide +kernel
theorem dX1_bind_10 : decode cX1_bind 10 = .ok (.new 56, 3) := by decide +kernel
theorem dX1_bind_13 : decode cX1_bind 13 = .ok (.dup, 1) := by decide +kernel
theorem dX1_bind_14 : decode cX1_bind 14 = .ok (.ldc 121, 2) := by decide +kernel
theorem dX1_bind_16 : decode cX1_bind 16 = .ok (.invokespecial 60, 3) := by decide +kernel
theorem dX1_bind_19 : decode cX1_bind 19 = .ok (.athrow, 1) := by decide +kernel
theorem dX1_bind_20 : decode cX1_bind 20 = .ok (.aload_n 0, 1) := by decide +kernel
theorem dX1_bind_21 : decode cX1_bind 21 = .ok (.getfield 15, 3) := by decide +kernel
theorem dX1_bind_24 : decode cX1_bind 24 = .ok (.iconst 2, 1) := by decide +kernel
theorem dX1_bind_25 : decode cX1_bind 25 = .ok (.iaload, 1) := by decide +kernel
theorem dX1_bind_26 : decode cX1_bind 26 = .ok (.aload_n 2, 1) := by decide +kernel
theorem dX1_bind_27 : decode cX1_bind 27 = .ok (.invokevirtual 102, 3) := by decide +kernel
theorem dX1_bind_30 : decode cX1_bind 30 = .ok (.if_icmp .ge 13, 3) := by decide +kernel
theorem dX1_bind_33 : decode cX1_bind 33 = .ok (.new 47, 3) := by decide +kernel
theorem dX1_bind_36 : decode cX1_bind 36 = .ok (.dup, 1) := by decide +kernel
theorem dX1_bind_37 : decode cX1_bind 37 = .ok (.ldc 123, 2) := by decide +kernel
theorem dX1_bind_39 : decode cX1_bind 39 = .ok (.invokespecial 51, 3) := by decide +kernel
theorem dX1_bind_42 : decode cX1_bind 42 = .ok (.athrow, 1) := by decide +kernel
theorem dX1_bind_43 : decode cX1_bind 43 = .ok (.aload_n 0, 1) := by decide +kernel
theorem dX1_bind_44 : decode cX1_bind 44 = .ok (.getfield 15, 3) := by decide +kernel
theorem dX1_bind_47 : decode cX1_bind 47 = .ok (.iconst 2, 1) := by decide +kernel
theorem dX1_bind_48 : decode cX1_bind 48 = .ok (.dup2, 1) := by decide +kernel
theorem dX1_bind_49 : decode cX1_bind 49 = .ok (.iaload, 1) := by decide +kernel
theorem dX1_bind_50 : decode cX1_bind 50 = .ok (.aload_n 2, 1) := by decide +kernel
theorem dX1_bind_51 : decode cX1_bind 51 = .ok (.invokevirtual 102, 3) := by decide +kernel
theorem dX1_bind_54 : decode cX1_bind 54 = .ok (.isub, 1) := by decide +kernel
theorem dX1_bind_55 : decode cX1_bind 55 = .ok (.iastore, 1) := by decide +kernel
theorem dX1_bind_56 : decode cX1_bind 56 = .ok (.aload_n 2, 1) := by decide +kernel
theorem dX1_bind_57 : decode cX1_bind 57 = .ok (.invokevirtual 125, 3) := by decide +kernel
theorem dX1_bind_60 : decode cX1_bind 60 = .ok (.ireturn, 1) := by decide +kernel
set_option maxRecDepth 20000 in
theorem ggX1_yealm_X1_roofAt : GoodIn wsX1_yealm wsX1_roofAt := goodIn_r _ [7, 8, 9, 10, 6, 11, 51, 52, 53, 54, 55, 56, 57] (by decide +kernel) (by decide +kernel)
set_option maxRecDepth 20000 in
theorem gX1_yealm_X1_roofAt : GoodIn wsX1_yealm (wsV RX1 69 RX1 yX1_roofAt wsX1_roofAt) := goodIn_app (goodIn_of _ (by decide +kernel)) ggX1_yealm_X1_roofAt
set_option maxRecDepth 20000 in
theorem ggX1_yealm_X0_hasPlace : GoodIn wsX1_yealm wsX0_hasPlace := goodIn_r _ [16, 17, 18, 19, 20, 15, 21, 22, 58, 59, 60, 61, 62, 63, 64, 65, 66, 67] (by decide +kernel) (by decide +kernel)
set_option maxRecDepth 20000 in
theorem gX1_yealm_X0_hasPlace : GoodIn wsX1_yealm (wsV RX1 73 RX0 yX0_hasPlace wsX0_hasPlace) := goodIn_app (goodIn_of _ (by decide +kernel)) ggX1_yealm_X0_hasPlace
set_option maxRecDepth 20000 in
theorem ggX1_yealm_X1_isWithin : GoodIn wsX1_yealm wsX1_isWithin := goodIn_r _ [11] (by decide +kernel) (by decide +kernel)
set_option maxRecDepth 20000 in
theorem gX1_yealm_X1_isWithin : GoodIn wsX1_yealm (va_wsS RX1 32 yX1_isWithin wsX1_isWithin) := goodIn_app (goodIn_of _ (by decide +kernel)) ggX1_yealm_X1_isWithin
set_option maxRecDepth 20000 in
theorem ggX1_yealm_X0_tellYealm : GoodIn wsX1_yealm wsX0_tellYealm := goodIn_r _ [26, 27, 28, 29, 30, 31, 32, 33, 15, 34, 35, 36, 37, 38, 22, 17, 39, 40, 41, 42, 43, 44, 45, 46, 47, 48, 49, 50, 58, 59, 60, 61, 62, 63, 64, 65, 66, 67] (by decide +kernel) (by decide +kernel)
set_option maxRecDepth 20000 in
theorem gX1_yealm_X0_tellYealm : GoodIn wsX1_yealm (wsV RX1 130 RX0 yX0_tellYealm wsX0_tellYealm) := goodIn_app (goodIn_of _ (by decide +kernel)) ggX1_yealm_X0_tellYealm
theorem dX1_yealm_0 : decode cX1_yealm 0 = .ok (.aload_n 0, 1) := by decide +kernel
theorem dX1_yealm_1 : decode cX1_yealm 1 = .ok (.iload_n 1, 1) := by decide +kernel
theorem dX1_yealm_2 : decode cX1_yealm 2 = .ok (.invokevirtual 69, 3) := by decide +kernel
theorem dX1_yealm_5 : decode cX1_yealm 5 = .ok (.astore 5, 2) := by decide +kernel
theorem dX1_yealm_7 : decode cX1_yealm 7 = .ok (.aload 5, 2) := by decide +kernel
theorem dX1_yealm_9 : decode cX1_yealm 9 = .ok (.ifnull 23, 3) := by decide +kernel
theorem dX1_yealm_12 : decode cX1_yealm 12 = .ok (.aload 5, 2) := by decide +kernel
theorem dX1_yealm_14 : decode cX1_yealm 14 = .ok (.iload_n 2, 1) := by decide +kernel
theorem dX1_yealm_15 : decode cX1_yealm 15 = .ok (.iload_n 3, 1) := by decide +kernel
theorem dX1_yealm_16 : decode cX1_yealm 16 = .ok (.invokevirtual 73, 3) := by decide +kernel
theorem dX1_yealm_19 : decode cX1_yealm 19 = .ok (.ifCond .eq 13, 3) := by decide +kernel
theorem dX1_yealm_22 : decode cX1_yealm 22 = .ok (.iload 4, 2) := by decide +kernel
theorem dX1_yealm_24 : decode cX1_yealm 24 = .ok (.iconst 0, 1) := by decide +kernel
theorem dX1_yealm_25 : decode cX1_yealm 25 = .ok (.iconst 5, 1) := by decide +kernel
theorem dX1_yealm_26 : decode cX1_yealm 26 = .ok (.invokestatic 32, 3) := by decide +kernel
theorem dX1_yealm_29 : decode cX1_yealm 29 = .ok (.ifCond .ne 13, 3) := by decide +kernel
theorem dX1_yealm_32 : decode cX1_yealm 32 = .ok (.new 56, 3) := by decide +kernel
theorem dX1_yealm_35 : decode cX1_yealm 35 = .ok (.dup, 1) := by decide +kernel
theorem dX1_yealm_36 : decode cX1_yealm 36 = .ok (.ldc 128, 2) := by decide +kernel
theorem dX1_yealm_38 : decode cX1_yealm 38 = .ok (.invokespecial 60, 3) := by decide +kernel
theorem dX1_yealm_41 : decode cX1_yealm 41 = .ok (.athrow, 1) := by decide +kernel
theorem dX1_yealm_42 : decode cX1_yealm 42 = .ok (.aload 5, 2) := by decide +kernel
theorem dX1_yealm_44 : decode cX1_yealm 44 = .ok (.iload_n 2, 1) := by decide +kernel
theorem dX1_yealm_45 : decode cX1_yealm 45 = .ok (.iload_n 3, 1) := by decide +kernel
theorem dX1_yealm_46 : decode cX1_yealm 46 = .ok (.iload 4, 2) := by decide +kernel
theorem dX1_yealm_48 : decode cX1_yealm 48 = .ok (.invokevirtual 130, 3) := by decide +kernel
theorem dX1_yealm_51 : decode cX1_yealm 51 = .ok (.ireturn, 1) := by decide +kernel
set_option maxRecDepth 20000 in
theorem ggX1_roof_X1_roofAt : GoodIn wsX1_roof wsX1_roofAt := goodIn_r _ [7, 8, 9, 10, 6, 11, 48, 49, 50, 51, 52, 53, 54] (by decide +kernel) (by decide +kernel)
set_option maxRecDepth 20000 in
theorem gX1_roof_X1_roofAt : GoodIn wsX1_roof (wsV RX1 69 RX1 yX1_roofAt wsX1_roofAt) := goodIn_app (goodIn_of _ (by decide +kernel)) ggX1_roof_X1_roofAt
set_option maxRecDepth 20000 in
theorem ggX1_roof_X1_isWithin : GoodIn wsX1_roof wsX1_isWithin := goodIn_r _ [11] (by decide +kernel) (by decide +kernel)
set_option maxRecDepth 20000 in
theorem gX1_roof_X1_isWithin : GoodIn wsX1_roof (va_wsS RX1 32 yX1_isWithin wsX1_isWithin) := goodIn_app (goodIn_of _ (by decide +kernel)) ggX1_roof_X1_isWithin
set_option maxRecDepth 20000 in
theorem ggX1_roof_X0_tell : GoodIn wsX1_roof wsX0_tell := goodIn_r _ [16, 17, 18, 19, 20, 21, 22, 23, 24, 25, 15, 26, 27, 28, 29, 30, 31, 32, 33, 34, 35, 36, 37, 38, 39, 40, 41, 42, 43, 44, 45, 46, 47, 55, 56, 57, 58, 59, 60, 61, 62, 63, 64] (by decide +kernel) (by decide +kernel)
set_option maxRecDepth 20000 in
theorem gX1_roof_X0_tell : GoodIn wsX1_roof (wsV RX1 136 RX0 yX0_tell wsX0_tell) := goodIn_app (goodIn_of _ (by decide +kernel)) ggX1_roof_X0_tell
theorem dX1_roof_0 : decode cX1_roof 0 = .ok (.aload_n 0, 1) := by decide +kernel
theorem dX1_roof_1 : decode cX1_roof 1 = .ok (.iload_n 1, 1) := by decide +kernel
theorem dX1_roof_2 : decode cX1_roof 2 = .ok (.invokevirtual 69, 3) := by decide +kernel
theorem dX1_roof_5 : decode cX1_roof 5 = .ok (.astore_n 3, 1) := by decide +kernel
theorem dX1_roof_6 : decode cX1_roof 6 = .ok (.aload_n 3, 1) := by decide +kernel
theorem dX1_roof_7 : decode cX1_roof 7 = .ok (.ifnull 13, 3) := by decide +kernel
theorem dX1_roof_10 : decode cX1_roof 10 = .ok (.iload_n 2, 1) := by decide +kernel
theorem dX1_roof_11 : decode cX1_roof 11 = .ok (.iconst 0, 1) := by decide +kernel
theorem dX1_roof_12 : decode cX1_roof 12 = .ok (.bipush 8, 2) := by decide +kernel
theorem dX1_roof_14 : decode cX1_roof 14 = .ok (.invokestatic 32, 3) := by decide +kernel
theorem dX1_roof_17 : decode cX1_roof 17 = .ok (.ifCond .ne 13, 3) := by decide +kernel
theorem dX1_roof_20 : decode cX1_roof 20 = .ok (.new 56, 3) := by decide +kernel
theorem dX1_roof_23 : decode cX1_roof 23 = .ok (.dup, 1) := by decide +kernel
theorem dX1_roof_24 : decode cX1_roof 24 = .ok (.ldc 134, 2) := by decide +kernel
theorem dX1_roof_26 : decode cX1_roof 26 = .ok (.invokespecial 60, 3) := by decide +kernel
theorem dX1_roof_29 : decode cX1_roof 29 = .ok (.athrow, 1) := by decide +kernel
theorem dX1_roof_30 : decode cX1_roof 30 = .ok (.aload_n 3, 1) := by decide +kernel
theorem dX1_roof_31 : decode cX1_roof 31 = .ok (.iload_n 2, 1) := by decide +kernel
theorem dX1_roof_32 : decode cX1_roof 32 = .ok (.invokevirtual 136, 3) := by decide +kernel
theorem dX1_roof_35 : decode cX1_roof 35 = .ok (.ireturn, 1) := by decide +kernel
set_option maxRecDepth 20000 in
theorem ggX1_count_X1_isWithin : GoodIn wsX1_count wsX1_isWithin := goodIn_r _ [6] (by decide +kernel) (by decide +kernel)
set_option maxRecDepth 20000 in
theorem gX1_count_X1_isWithin : GoodIn wsX1_count (va_wsS RX1 32 yX1_isWithin wsX1_isWithin) := goodIn_app (goodIn_of _ (by decide +kernel)) ggX1_count_X1_isWithin
set_option maxRecDepth 20000 in
theorem ggX1_count_X1_tally : GoodIn wsX1_count wsX1_tally := goodIn_r _ [10, 11, 12, 13, 14, 15, 16, 5, 17, 18, 19, 20, 21, 22, 23, 24, 25, 26, 27, 28, 29, 30, 31, 32, 33, 34, 35, 36, 37, 38, 39, 40, 41, 42, 43, 44, 45, 46, 47, 48, 49, 50, 51, 52, 53, 54, 55, 56, 57, 58, 59, 60, 61, 62, 63, 64, 65, 66, 67, 68, 69, 70, 71, 72, 73, 74, 75, 76, 77, 78, 79, 80, 81, 82, 83, 84, 85, 86, 87, 88, 89] (by decide +kernel) (by decide +kernel)
set_option maxRecDepth 20000 in
theorem gX1_count_X1_tally : GoodIn wsX1_count (wsV RX1 141 RX1 yX1_tally wsX1_tally) := goodIn_app (goodIn_of _ (by decide +kernel)) ggX1_count_X1_tally
theorem dX1_count_0 : decode cX1_count 0 = .ok (.iload_n 1, 1) := by decide +kernel
theorem dX1_count_1 : decode cX1_count 1 = .ok (.iconst 0, 1) := by decide +kernel
theorem dX1_count_2 : decode cX1_count 2 = .ok (.bipush 8, 2) := by decide +kernel
theorem dX1_count_4 : decode cX1_count 4 = .ok (.invokestatic 32, 3) := by decide +kernel
theorem dX1_count_7 : decode cX1_count 7 = .ok (.ifCond .ne 13, 3) := by decide +kernel
theorem dX1_count_10 : decode cX1_count 10 = .ok (.new 56, 3) := by decide +kernel
theorem dX1_count_13 : decode cX1_count 13 = .ok (.dup, 1) := by decide +kernel
theorem dX1_count_14 : decode cX1_count 14 = .ok (.ldc 139, 2) := by decide +kernel
theorem dX1_count_16 : decode cX1_count 16 = .ok (.invokespecial 60, 3) := by decide +kernel
theorem dX1_count_19 : decode cX1_count 19 = .ok (.athrow, 1) := by decide +kernel
theorem dX1_count_20 : decode cX1_count 20 = .ok (.aload_n 0, 1) := by decide +kernel
theorem dX1_count_21 : decode cX1_count 21 = .ok (.iload_n 1, 1) := by decide +kernel
theorem dX1_count_22 : decode cX1_count 22 = .ok (.invokevirtual 141, 3) := by decide +kernel
theorem dX1_count_25 : decode cX1_count 25 = .ok (.ireturn, 1) := by decide +kernel
set_option maxRecDepth 20000 in
theorem ggX1_pass_X1_isWithin : GoodIn wsX1_pass wsX1_isWithin := goodIn_r _ [8] (by decide +kernel) (by decide +kernel)
set_option maxRecDepth 20000 in
theorem gX1_pass_X1_isWithin : GoodIn wsX1_pass (va_wsS RX1 32 yX1_isWithin wsX1_isWithin) := goodIn_app (goodIn_of _ (by decide +kernel)) ggX1_pass_X1_isWithin
set_option maxRecDepth 20000 in
theorem ggX1_pass_X1_rainAhead : GoodIn wsX1_pass wsX1_rainAhead := goodIn_r _ [12, 13, 14, 15, 16, 7, 17, 4, 18, 19, 20, 21, 101, 102, 103, 104, 105, 106, 107] (by decide +kernel) (by decide +kernel)
set_option maxRecDepth 20000 in
theorem gX1_pass_X1_rainAhead : GoodIn wsX1_pass (wsV RX1 146 RX1 yX1_rainAhead wsX1_rainAhead) := goodIn_app (goodIn_of _ (by decide +kernel)) ggX1_pass_X1_rainAhead
set_option maxRecDepth 20000 in
theorem ggX1_pass_X1_stormAhead : GoodIn wsX1_pass wsX1_stormAhead := goodIn_r _ [25, 26, 14, 15, 16, 7, 17, 4, 18, 19, 20, 21, 101, 102, 103, 104, 105, 106, 107] (by decide +kernel) (by decide +kernel)
set_option maxRecDepth 20000 in
theorem gX1_pass_X1_stormAhead : GoodIn wsX1_pass (wsV RX1 149 RX1 yX1_stormAhead wsX1_stormAhead) := goodIn_app (goodIn_of _ (by decide +kernel)) ggX1_pass_X1_stormAhead
set_option maxRecDepth 20000 in
theorem ggX1_pass_X0_liveMonth : GoodIn wsX1_pass wsX0_liveMonth := goodIn_r _ [31, 32, 33, 34, 35, 30, 36, 37, 38, 39, 40, 41, 42, 43, 44, 45, 46, 47, 48, 49, 50, 51, 52, 53, 54, 55, 56, 57, 58, 59, 60, 61, 62, 63, 64, 65, 66, 67, 68, 69, 70, 71, 72, 73, 74, 75, 76, 77, 78, 79, 80, 81, 82, 83, 84, 85, 86, 87, 88, 89, 90, 91, 92, 93, 94, 95, 96, 97, 98, 99, 100, 108, 109, 110, 111, 112, 113, 114, 115, 116, 117] (by decide +kernel) (by decide +kernel)
set_option maxRecDepth 20000 in
theorem gX1_pass_X0_liveMonth : GoodIn wsX1_pass (wsV RX1 152 RX0 yX0_liveMonth wsX0_liveMonth) := goodIn_app (goodIn_of _ (by decide +kernel)) ggX1_pass_X0_liveMonth
theorem dX1_pass_0 : decode cX1_pass 0 = .ok (.iload_n 1, 1) := by decide +kernel
theorem dX1_pass_1 : decode cX1_pass 1 = .ok (.iconst 1, 1) := by decide +kernel
theorem dX1_pass_2 : decode cX1_pass 2 = .ok (.bipush 120, 2) := by decide +kernel
theorem dX1_pass_4 : decode cX1_pass 4 = .ok (.invokestatic 32, 3) := by decide +kernel
theorem dX1_pass_7 : decode cX1_pass 7 = .ok (.ifCond .ne 13, 3) := by decide +kernel
theorem dX1_pass_10 : decode cX1_pass 10 = .ok (.new 36, 3) := by decide +kernel
theorem dX1_pass_13 : decode cX1_pass 13 = .ok (.dup, 1) := by decide +kernel
theorem dX1_pass_14 : decode cX1_pass 14 = .ok (.ldc 144, 2) := by decide +kernel
theorem dX1_pass_16 : decode cX1_pass 16 = .ok (.invokespecial 40, 3) := by decide +kernel
theorem dX1_pass_19 : decode cX1_pass 19 = .ok (.athrow, 1) := by decide +kernel
theorem dX1_pass_20 : decode cX1_pass 20 = .ok (.iconst 0, 1) := by decide +kernel
theorem dX1_pass_21 : decode cX1_pass 21 = .ok (.istore_n 2, 1) := by decide +kernel
theorem dX1_pass_22 : decode cX1_pass 22 = .ok (.iconst 0, 1) := by decide +kernel
theorem dX1_pass_23 : decode cX1_pass 23 = .ok (.istore_n 3, 1) := by decide +kernel
theorem dX1_pass_24 : decode cX1_pass 24 = .ok (.iload_n 3, 1) := by decide +kernel
theorem dX1_pass_25 : decode cX1_pass 25 = .ok (.iload_n 1, 1) := by decide +kernel
theorem dX1_pass_26 : decode cX1_pass 26 = .ok (.if_icmp .ge 67, 3) := by decide +kernel
theorem dX1_pass_29 : decode cX1_pass 29 = .ok (.iconst 0, 1) := by decide +kernel
theorem dX1_pass_30 : decode cX1_pass 30 = .ok (.istore 4, 2) := by decide +kernel
theorem dX1_pass_32 : decode cX1_pass 32 = .ok (.iload 4, 2) := by decide +kernel
theorem dX1_pass_34 : decode cX1_pass 34 = .ok (.bipush 6, 2) := by decide +kernel
theorem dX1_pass_36 : decode cX1_pass 36 = .ok (.if_icmp .ge 41, 3) := by decide +kernel
theorem dX1_pass_39 : decode cX1_pass 39 = .ok (.aload_n 0, 1) := by decide +kernel
theorem dX1_pass_40 : decode cX1_pass 40 = .ok (.getfield 11, 3) := by decide +kernel
theorem dX1_pass_43 : decode cX1_pass 43 = .ok (.iload 4, 2) := by decide +kernel
theorem dX1_pass_45 : decode cX1_pass 45 = .ok (.aaload, 1) := by decide +kernel
theorem dX1_pass_46 : decode cX1_pass 46 = .ok (.astore 5, 2) := by decide +kernel
theorem dX1_pass_48 : decode cX1_pass 48 = .ok (.aload 5, 2) := by decide +kernel
theorem dX1_pass_50 : decode cX1_pass 50 = .ok (.ifnull 21, 3) := by decide +kernel
theorem dX1_pass_53 : decode cX1_pass 53 = .ok (.iload_n 2, 1) := by decide +kernel
theorem dX1_pass_54 : decode cX1_pass 54 = .ok (.aload 5, 2) := by decide +kernel
theorem dX1_pass_56 : decode cX1_pass 56 = .ok (.aload_n 0, 1) := by decide +kernel
theorem dX1_pass_57 : decode cX1_pass 57 = .ok (.iconst 0, 1) := by decide +kernel
theorem dX1_pass_58 : decode cX1_pass 58 = .ok (.invokevirtual 146, 3) := by decide +kernel
theorem dX1_pass_61 : decode cX1_pass 61 = .ok (.aload_n 0, 1) := by decide +kernel
theorem dX1_pass_62 : decode cX1_pass 62 = .ok (.iconst 0, 1) := by decide +kernel
theorem dX1_pass_63 : decode cX1_pass 63 = .ok (.invokevirtual 149, 3) := by decide +kernel
theorem dX1_pass_66 : decode cX1_pass 66 = .ok (.invokevirtual 152, 3) := by decide +kernel
theorem dX1_pass_69 : decode cX1_pass 69 = .ok (.iadd, 1) := by decide +kernel
theorem dX1_pass_70 : decode cX1_pass 70 = .ok (.istore_n 2, 1) := by decide +kernel
theorem dX1_pass_71 : decode cX1_pass 71 = .ok (.iinc 4 1, 3) := by decide +kernel
theorem dX1_pass_74 : decode cX1_pass 74 = .ok (.goto (-42), 3) := by decide +kernel
theorem dX1_pass_77 : decode cX1_pass 77 = .ok (.aload_n 0, 1) := by decide +kernel
theorem dX1_pass_78 : decode cX1_pass 78 = .ok (.dup, 1) := by decide +kernel
theorem dX1_pass_79 : decode cX1_pass 79 = .ok (.getfield 155, 3) := by decide +kernel
theorem dX1_pass_82 : decode cX1_pass 82 = .ok (.iconst 1, 1) := by decide +kernel
theorem dX1_pass_83 : decode cX1_pass 83 = .ok (.iadd, 1) := by decide +kernel
theorem dX1_pass_84 : decode cX1_pass 84 = .ok (.putfield 155, 3) := by decide +kernel
theorem dX1_pass_87 : decode cX1_pass 87 = .ok (.iinc 3 1, 3) := by decide +kernel
theorem dX1_pass_90 : decode cX1_pass 90 = .ok (.goto (-66), 3) := by decide +kernel
theorem dX1_pass_93 : decode cX1_pass 93 = .ok (.iload_n 2, 1) := by decide +kernel
theorem dX1_pass_94 : decode cX1_pass 94 = .ok (.ireturn, 1) := by decide +kernel
set_option maxRecDepth 20000 in
theorem ggX1_tears_X1_roofAt : GoodIn wsX1_tears wsX1_roofAt := goodIn_r _ [9, 10, 11, 12, 8, 13, 52, 53, 54, 55, 56, 57, 58] (by decide +kernel) (by decide +kernel)
set_option maxRecDepth 20000 in
theorem gX1_tears_X1_roofAt : GoodIn wsX1_tears (wsV RX1 69 RX1 yX1_roofAt wsX1_roofAt) := goodIn_app (goodIn_of _ (by decide +kernel)) ggX1_tears_X1_roofAt
set_option maxRecDepth 20000 in
theorem ggX1_tears_X1_isWithin : GoodIn wsX1_tears wsX1_isWithin := goodIn_r _ [13] (by decide +kernel) (by decide +kernel)
set_option maxRecDepth 20000 in
theorem gX1_tears_X1_isWithin : GoodIn wsX1_tears (va_wsS RX1 32 yX1_isWithin wsX1_isWithin) := goodIn_app (goodIn_of _ (by decide +kernel)) ggX1_tears_X1_isWithin
set_option maxRecDepth 20000 in
theorem ggX1_tears_X0_wouldTearInAll : GoodIn wsX1_tears wsX0_wouldTearInAll := goodIn_r _ [18, 19, 20, 21, 22, 23, 17, 24, 25, 26, 27, 28, 29, 30, 31, 32, 33, 34, 35, 36, 37, 38, 39, 40, 41, 42, 43, 44, 45, 46, 47, 48, 49, 50, 51, 59, 60, 61, 62, 63, 64, 65, 66, 67, 68] (by decide +kernel) (by decide +kernel)
set_option maxRecDepth 20000 in
theorem gX1_tears_X0_wouldTearInAll : GoodIn wsX1_tears (wsV RX1 160 RX0 yX0_wouldTearInAll wsX0_wouldTearInAll) := goodIn_app (goodIn_of _ (by decide +kernel)) ggX1_tears_X0_wouldTearInAll
theorem dX1_tears_0 : decode cX1_tears 0 = .ok (.aload_n 0, 1) := by decide +kernel
theorem dX1_tears_1 : decode cX1_tears 1 = .ok (.iload_n 1, 1) := by decide +kernel
theorem dX1_tears_2 : decode cX1_tears 2 = .ok (.invokevirtual 69, 3) := by decide +kernel
theorem dX1_tears_5 : decode cX1_tears 5 = .ok (.astore_n 3, 1) := by decide +kernel
theorem dX1_tears_6 : decode cX1_tears 6 = .ok (.aload_n 3, 1) := by decide +kernel
theorem dX1_tears_7 : decode cX1_tears 7 = .ok (.ifnonnull 13, 3) := by decide +kernel
theorem dX1_tears_10 : decode cX1_tears 10 = .ok (.new 56, 3) := by decide +kernel
theorem dX1_tears_13 : decode cX1_tears 13 = .ok (.dup, 1) := by decide +kernel
theorem dX1_tears_14 : decode cX1_tears 14 = .ok (.ldc 121, 2) := by decide +kernel
theorem dX1_tears_16 : decode cX1_tears 16 = .ok (.invokespecial 60, 3) := by decide +kernel
theorem dX1_tears_19 : decode cX1_tears 19 = .ok (.athrow, 1) := by decide +kernel
theorem dX1_tears_20 : decode cX1_tears 20 = .ok (.iload_n 2, 1) := by decide +kernel
theorem dX1_tears_21 : decode cX1_tears 21 = .ok (.iconst 0, 1) := by decide +kernel
theorem dX1_tears_22 : decode cX1_tears 22 = .ok (.bipush 9, 2) := by decide +kernel
theorem dX1_tears_24 : decode cX1_tears 24 = .ok (.invokestatic 32, 3) := by decide +kernel
theorem dX1_tears_27 : decode cX1_tears 27 = .ok (.ifCond .ne 13, 3) := by decide +kernel
theorem dX1_tears_30 : decode cX1_tears 30 = .ok (.new 36, 3) := by decide +kernel
theorem dX1_tears_33 : decode cX1_tears 33 = .ok (.dup, 1) := by decide +kernel
theorem dX1_tears_34 : decode cX1_tears 34 = .ok (.ldc 158, 2) := by decide +kernel
theorem dX1_tears_36 : decode cX1_tears 36 = .ok (.invokespecial 40, 3) := by decide +kernel
theorem dX1_tears_39 : decode cX1_tears 39 = .ok (.athrow, 1) := by decide +kernel
theorem dX1_tears_40 : decode cX1_tears 40 = .ok (.aload_n 3, 1) := by decide +kernel
theorem dX1_tears_41 : decode cX1_tears 41 = .ok (.iload_n 2, 1) := by decide +kernel
theorem dX1_tears_42 : decode cX1_tears 42 = .ok (.invokevirtual 160, 3) := by decide +kernel
theorem dX1_tears_45 : decode cX1_tears 45 = .ok (.ireturn, 1) := by decide +kernel
set_option maxRecDepth 20000 in
theorem ggX1_holds_X1_roofAt : GoodIn wsX1_holds wsX1_roofAt := goodIn_r _ [8, 9, 10, 11, 7, 12, 122, 123, 124, 125, 126, 127, 128] (by decide +kernel) (by decide +kernel)
set_option maxRecDepth 20000 in
theorem gX1_holds_X1_roofAt : GoodIn wsX1_holds (wsV RX1 69 RX1 yX1_roofAt wsX1_roofAt) := goodIn_app (goodIn_of _ (by decide +kernel)) ggX1_holds_X1_roofAt
set_option maxRecDepth 20000 in
theorem ggX1_holds_X0_leaks : GoodIn wsX1_holds wsX0_leaks := goodIn_r _ [17, 18, 19, 20, 21, 22, 16, 23, 24, 25, 26, 27, 28, 29, 30, 31, 32, 129, 130, 131, 132, 133, 134, 135, 136, 137, 138] (by decide +kernel) (by decide +kernel)
set_option maxRecDepth 20000 in
theorem gX1_holds_X0_leaks : GoodIn wsX1_holds (wsV RX1 163 RX0 yX0_leaks wsX0_leaks) := goodIn_app (goodIn_of _ (by decide +kernel)) ggX1_holds_X0_leaks
set_option maxRecDepth 20000 in
theorem ggX1_holds_X0_becomeLike : GoodIn wsX1_holds wsX0_becomeLike := goodIn_r _ [36, 18, 19, 37, 38, 39, 40, 41, 42, 43, 28, 44, 45, 129, 130, 131, 132, 133, 134, 135, 136, 137, 138] (by decide +kernel) (by decide +kernel)
set_option maxRecDepth 20000 in
theorem gX1_holds_X0_becomeLike : GoodIn wsX1_holds (wsV RX1 166 RX0 yX0_becomeLike wsX0_becomeLike) := goodIn_app (goodIn_of _ (by decide +kernel)) ggX1_holds_X0_becomeLike
set_option maxRecDepth 20000 in
theorem ggX1_holds_X1_rainAhead : GoodIn wsX1_holds wsX1_rainAhead := goodIn_r _ [49, 50, 51, 52, 53, 7, 54, 55, 56, 57, 58, 59, 122, 123, 124, 125, 126, 127, 128] (by decide +kernel) (by decide +kernel)
set_option maxRecDepth 20000 in
theorem gX1_holds_X1_rainAhead : GoodIn wsX1_holds (wsV RX1 146 RX1 yX1_rainAhead wsX1_rainAhead) := goodIn_app (goodIn_of _ (by decide +kernel)) ggX1_holds_X1_rainAhead
set_option maxRecDepth 20000 in
theorem ggX1_holds_X1_stormAhead : GoodIn wsX1_holds wsX1_stormAhead := goodIn_r _ [63, 64, 51, 52, 53, 7, 54, 55, 56, 57, 58, 59, 122, 123, 124, 125, 126, 127, 128] (by decide +kernel) (by decide +kernel)
set_option maxRecDepth 20000 in
theorem gX1_holds_X1_stormAhead : GoodIn wsX1_holds (wsV RX1 149 RX1 yX1_stormAhead wsX1_stormAhead) := goodIn_app (goodIn_of _ (by decide +kernel)) ggX1_holds_X1_stormAhead
set_option maxRecDepth 20000 in
theorem ggX1_holds_X0_liveMonth : GoodIn wsX1_holds wsX0_liveMonth := goodIn_r _ [68, 18, 69, 70, 71, 16, 72, 73, 74, 75, 76, 77, 78, 19, 28, 79, 80, 81, 82, 29, 30, 31, 32, 24, 25, 26, 27, 83, 84, 85, 86, 87, 88, 89, 90, 45, 37, 39, 91, 92, 93, 94, 95, 96, 97, 98, 99, 100, 101, 102, 103, 104, 105, 106, 107, 108, 109, 110, 111, 112, 113, 44, 38, 114, 115, 116, 117, 118, 119, 120, 121, 129, 130, 131, 132, 133, 134, 135, 136, 137, 138] (by decide +kernel) (by decide +kernel)
set_option maxRecDepth 20000 in
theorem gX1_holds_X0_liveMonth : GoodIn wsX1_holds (wsV RX1 152 RX0 yX0_liveMonth wsX0_liveMonth) := goodIn_app (goodIn_of _ (by decide +kernel)) ggX1_holds_X0_liveMonth
theorem dX1_holds_0 : decode cX1_holds 0 = .ok (.aload_n 0, 1) := by decide +kernel
theorem dX1_holds_1 : decode cX1_holds 1 = .ok (.iload_n 1, 1) := by decide +kernel
theorem dX1_holds_2 : decode cX1_holds 2 = .ok (.invokevirtual 69, 3) := by decide +kernel
theorem dX1_holds_5 : decode cX1_holds 5 = .ok (.astore_n 2, 1) := by decide +kernel
theorem dX1_holds_6 : decode cX1_holds 6 = .ok (.aload_n 2, 1) := by decide +kernel
theorem dX1_holds_7 : decode cX1_holds 7 = .ok (.ifnonnull 13, 3) := by decide +kernel
theorem dX1_holds_10 : decode cX1_holds 10 = .ok (.new 56, 3) := by decide +kernel
theorem dX1_holds_13 : decode cX1_holds 13 = .ok (.dup, 1) := by decide +kernel
theorem dX1_holds_14 : decode cX1_holds 14 = .ok (.ldc 121, 2) := by decide +kernel
theorem dX1_holds_16 : decode cX1_holds 16 = .ok (.invokespecial 60, 3) := by decide +kernel
theorem dX1_holds_19 : decode cX1_holds 19 = .ok (.athrow, 1) := by decide +kernel
theorem dX1_holds_20 : decode cX1_holds 20 = .ok (.aload_n 2, 1) := by decide +kernel
theorem dX1_holds_21 : decode cX1_holds 21 = .ok (.invokevirtual 163, 3) := by decide +kernel
theorem dX1_holds_24 : decode cX1_holds 24 = .ok (.istore_n 3, 1) := by decide +kernel
theorem dX1_holds_25 : decode cX1_holds 25 = .ok (.aload_n 0, 1) := by decide +kernel
theorem dX1_holds_26 : decode cX1_holds 26 = .ok (.getfield 28, 3) := by decide +kernel
theorem dX1_holds_29 : decode cX1_holds 29 = .ok (.aload_n 2, 1) := by decide +kernel
theorem dX1_holds_30 : decode cX1_holds 30 = .ok (.invokevirtual 166, 3) := by decide +kernel
theorem dX1_holds_33 : decode cX1_holds 33 = .ok (.iconst 0, 1) := by decide +kernel
theorem dX1_holds_34 : decode cX1_holds 34 = .ok (.istore 4, 2) := by decide +kernel
theorem dX1_holds_36 : decode cX1_holds 36 = .ok (.iload 4, 2) := by decide +kernel
theorem dX1_holds_38 : decode cX1_holds 38 = .ok (.bipush 120, 2) := by decide +kernel
theorem dX1_holds_40 : decode cX1_holds 40 = .ok (.if_icmp .ge 45, 3) := by decide +kernel
theorem dX1_holds_43 : decode cX1_holds 43 = .ok (.aload_n 0, 1) := by decide +kernel
theorem dX1_holds_44 : decode cX1_holds 44 = .ok (.getfield 28, 3) := by decide +kernel
theorem dX1_holds_47 : decode cX1_holds 47 = .ok (.aload_n 0, 1) := by decide +kernel
theorem dX1_holds_48 : decode cX1_holds 48 = .ok (.iload 4, 2) := by decide +kernel
theorem dX1_holds_50 : decode cX1_holds 50 = .ok (.invokevirtual 146, 3) := by decide +kernel
theorem dX1_holds_53 : decode cX1_holds 53 = .ok (.aload_n 0, 1) := by decide +kernel
theorem dX1_holds_54 : decode cX1_holds 54 = .ok (.iload 4, 2) := by decide +kernel
theorem dX1_holds_56 : decode cX1_holds 56 = .ok (.invokevirtual 149, 3) := by decide +kernel
theorem dX1_holds_59 : decode cX1_holds 59 = .ok (.invokevirtual 152, 3) := by decide +kernel
theorem dX1_holds_62 : decode cX1_holds 62 = .ok (.pop, 1) := by decide +kernel
theorem dX1_holds_63 : decode cX1_holds 63 = .ok (.aload_n 0, 1) := by decide +kernel
theorem dX1_holds_64 : decode cX1_holds 64 = .ok (.getfield 28, 3) := by decide +kernel
theorem dX1_holds_67 : decode cX1_holds 67 = .ok (.invokevirtual 163, 3) := by decide +kernel
theorem dX1_holds_70 : decode cX1_holds 70 = .ok (.iload_n 3, 1) := by decide +kernel
theorem dX1_holds_71 : decode cX1_holds 71 = .ok (.if_icmp .le 8, 3) := by decide +kernel
theorem dX1_holds_74 : decode cX1_holds 74 = .ok (.iload 4, 2) := by decide +kernel
theorem dX1_holds_76 : decode cX1_holds 76 = .ok (.iconst 1, 1) := by decide +kernel
theorem dX1_holds_77 : decode cX1_holds 77 = .ok (.iadd, 1) := by decide +kernel
theorem dX1_holds_78 : decode cX1_holds 78 = .ok (.ireturn, 1) := by decide +kernel
theorem dX1_holds_79 : decode cX1_holds 79 = .ok (.iinc 4 1, 3) := by decide +kernel
theorem dX1_holds_82 : decode cX1_holds 82 = .ok (.goto (-46), 3) := by decide +kernel
theorem dX1_holds_85 : decode cX1_holds 85 = .ok (.iconst (-1), 1) := by decide +kernel
theorem dX1_holds_86 : decode cX1_holds 86 = .ok (.ireturn, 1) := by decide +kernel
set_option maxRecDepth 20000 in
theorem ggX1_foresee_X1_roofAt : GoodIn wsX1_foresee wsX1_roofAt := goodIn_r _ [10, 11, 12, 13, 9, 14, 132, 133, 134, 135, 136, 137, 138] (by decide +kernel) (by decide +kernel)
set_option maxRecDepth 20000 in
theorem gX1_foresee_X1_roofAt : GoodIn wsX1_foresee (wsV RX1 69 RX1 yX1_roofAt wsX1_roofAt) := goodIn_app (goodIn_of _ (by decide +kernel)) ggX1_foresee_X1_roofAt
set_option maxRecDepth 20000 in
theorem ggX1_foresee_X1_isWithin : GoodIn wsX1_foresee wsX1_isWithin := goodIn_r _ [14] (by decide +kernel) (by decide +kernel)
set_option maxRecDepth 20000 in
theorem gX1_foresee_X1_isWithin : GoodIn wsX1_foresee (va_wsS RX1 32 yX1_isWithin wsX1_isWithin) := goodIn_app (goodIn_of _ (by decide +kernel)) ggX1_foresee_X1_isWithin
set_option maxRecDepth 20000 in
theorem ggX1_foresee_X0_becomeLike : GoodIn wsX1_foresee wsX0_becomeLike := goodIn_r _ [19, 20, 21, 22, 23, 24, 25, 26, 27, 28, 29, 30, 31, 139, 140, 141, 142, 143, 144, 145, 146, 147, 148] (by decide +kernel) (by decide +kernel)
set_option maxRecDepth 20000 in
theorem gX1_foresee_X0_becomeLike : GoodIn wsX1_foresee (wsV RX1 166 RX0 yX0_becomeLike wsX0_becomeLike) := goodIn_app (goodIn_of _ (by decide +kernel)) ggX1_foresee_X0_becomeLike
set_option maxRecDepth 20000 in
theorem ggX1_foresee_X1_rainAhead : GoodIn wsX1_foresee wsX1_rainAhead := goodIn_r _ [35, 36, 37, 38, 39, 9, 40, 41, 42, 43, 44, 45, 132, 133, 134, 135, 136, 137, 138] (by decide +kernel) (by decide +kernel)
set_option maxRecDepth 20000 in
theorem gX1_foresee_X1_rainAhead : GoodIn wsX1_foresee (wsV RX1 146 RX1 yX1_rainAhead wsX1_rainAhead) := goodIn_app (goodIn_of _ (by decide +kernel)) ggX1_foresee_X1_rainAhead
set_option maxRecDepth 20000 in
theorem ggX1_foresee_X1_stormAhead : GoodIn wsX1_foresee wsX1_stormAhead := goodIn_r _ [49, 50, 37, 38, 39, 9, 40, 41, 42, 43, 44, 45, 132, 133, 134, 135, 136, 137, 138] (by decide +kernel) (by decide +kernel)
set_option maxRecDepth 20000 in
theorem gX1_foresee_X1_stormAhead : GoodIn wsX1_foresee (wsV RX1 149 RX1 yX1_stormAhead wsX1_stormAhead) := goodIn_app (goodIn_of _ (by decide +kernel)) ggX1_foresee_X1_stormAhead
set_option maxRecDepth 20000 in
theorem ggX1_foresee_X0_liveMonth : GoodIn wsX1_foresee wsX0_liveMonth := goodIn_r _ [54, 20, 55, 56, 57, 18, 58, 59, 60, 61, 62, 63, 64, 21, 29, 65, 66, 67, 68, 69, 70, 71, 72, 73, 74, 75, 76, 77, 78, 79, 80, 81, 82, 83, 84, 31, 22, 24, 85, 86, 87, 88, 89, 90, 91, 92, 93, 94, 95, 96, 97, 98, 99, 100, 101, 102, 103, 104, 105, 106, 107, 30, 23, 108, 109, 110, 111, 112, 113, 114, 115, 139, 140, 141, 142, 143, 144, 145, 146, 147, 148] (by decide +kernel) (by decide +kernel)
set_option maxRecDepth 20000 in
theorem gX1_foresee_X0_liveMonth : GoodIn wsX1_foresee (wsV RX1 152 RX0 yX0_liveMonth wsX0_liveMonth) := goodIn_app (goodIn_of _ (by decide +kernel)) ggX1_foresee_X0_liveMonth
set_option maxRecDepth 20000 in
theorem ggX1_foresee_X0_yealms : GoodIn wsX1_foresee wsX0_yealms := goodIn_r _ [119, 21, 20, 69, 70, 71, 18, 72, 73, 74, 75, 76, 29, 139, 140, 141, 142, 143, 144, 145, 146, 147, 148] (by decide +kernel) (by decide +kernel)
set_option maxRecDepth 20000 in
theorem gX1_foresee_X0_yealms : GoodIn wsX1_foresee (wsV RX1 174 RX0 yX0_yealms wsX0_yealms) := goodIn_app (goodIn_of _ (by decide +kernel)) ggX1_foresee_X0_yealms
set_option maxRecDepth 20000 in
theorem ggX1_foresee_X0_leaks : GoodIn wsX1_foresee wsX0_leaks := goodIn_r _ [123, 20, 21, 124, 125, 126, 18, 127, 73, 74, 75, 76, 29, 69, 70, 71, 72, 139, 140, 141, 142, 143, 144, 145, 146, 147, 148] (by decide +kernel) (by decide +kernel)
set_option maxRecDepth 20000 in
theorem gX1_foresee_X0_leaks : GoodIn wsX1_foresee (wsV RX1 163 RX0 yX0_leaks wsX0_leaks) := goodIn_app (goodIn_of _ (by decide +kernel)) ggX1_foresee_X0_leaks
set_option maxRecDepth 20000 in
theorem ggX1_foresee_X0_ridgeLeft : GoodIn wsX1_foresee wsX0_ridgeLeft := goodIn_r _ [131, 23, 139, 140, 141, 142, 143, 144, 145, 146, 147, 148] (by decide +kernel) (by decide +kernel)
set_option maxRecDepth 20000 in
theorem gX1_foresee_X0_ridgeLeft : GoodIn wsX1_foresee (wsV RX1 177 RX0 yX0_ridgeLeft wsX0_ridgeLeft) := goodIn_app (goodIn_of _ (by decide +kernel)) ggX1_foresee_X0_ridgeLeft
theorem dX1_foresee_0 : decode cX1_foresee 0 = .ok (.aload_n 0, 1) := by decide +kernel
theorem dX1_foresee_1 : decode cX1_foresee 1 = .ok (.iload_n 1, 1) := by decide +kernel
theorem dX1_foresee_2 : decode cX1_foresee 2 = .ok (.invokevirtual 69, 3) := by decide +kernel
theorem dX1_foresee_5 : decode cX1_foresee 5 = .ok (.astore 4, 2) := by decide +kernel
theorem dX1_foresee_7 : decode cX1_foresee 7 = .ok (.aload 4, 2) := by decide +kernel
theorem dX1_foresee_9 : decode cX1_foresee 9 = .ok (.ifnull 12, 3) := by decide +kernel
theorem dX1_foresee_12 : decode cX1_foresee 12 = .ok (.iload_n 3, 1) := by decide +kernel
theorem dX1_foresee_13 : decode cX1_foresee 13 = .ok (.iconst 0, 1) := by decide +kernel
theorem dX1_foresee_14 : decode cX1_foresee 14 = .ok (.iconst 2, 1) := by decide +kernel
theorem dX1_foresee_15 : decode cX1_foresee 15 = .ok (.invokestatic 32, 3) := by decide +kernel
theorem dX1_foresee_18 : decode cX1_foresee 18 = .ok (.ifCond .ne 13, 3) := by decide +kernel
theorem dX1_foresee_21 : decode cX1_foresee 21 = .ok (.new 56, 3) := by decide +kernel
theorem dX1_foresee_24 : decode cX1_foresee 24 = .ok (.dup, 1) := by decide +kernel
theorem dX1_foresee_25 : decode cX1_foresee 25 = .ok (.ldc 170, 2) := by decide +kernel
theorem dX1_foresee_27 : decode cX1_foresee 27 = .ok (.invokespecial 60, 3) := by decide +kernel
theorem dX1_foresee_30 : decode cX1_foresee 30 = .ok (.athrow, 1) := by decide +kernel
theorem dX1_foresee_31 : decode cX1_foresee 31 = .ok (.iload_n 2, 1) := by decide +kernel
theorem dX1_foresee_32 : decode cX1_foresee 32 = .ok (.iconst 1, 1) := by decide +kernel
theorem dX1_foresee_33 : decode cX1_foresee 33 = .ok (.bipush 60, 2) := by decide +kernel
theorem dX1_foresee_35 : decode cX1_foresee 35 = .ok (.invokestatic 32, 3) := by decide +kernel
theorem dX1_foresee_38 : decode cX1_foresee 38 = .ok (.ifCond .ne 13, 3) := by decide +kernel
theorem dX1_foresee_41 : decode cX1_foresee 41 = .ok (.new 36, 3) := by decide +kernel
theorem dX1_foresee_44 : decode cX1_foresee 44 = .ok (.dup, 1) := by decide +kernel
theorem dX1_foresee_45 : decode cX1_foresee 45 = .ok (.ldc 172, 2) := by decide +kernel
theorem dX1_foresee_47 : decode cX1_foresee 47 = .ok (.invokespecial 40, 3) := by decide +kernel
theorem dX1_foresee_50 : decode cX1_foresee 50 = .ok (.athrow, 1) := by decide +kernel
theorem dX1_foresee_51 : decode cX1_foresee 51 = .ok (.aload_n 0, 1) := by decide +kernel
theorem dX1_foresee_52 : decode cX1_foresee 52 = .ok (.getfield 28, 3) := by decide +kernel
theorem dX1_foresee_55 : decode cX1_foresee 55 = .ok (.aload 4, 2) := by decide +kernel
theorem dX1_foresee_57 : decode cX1_foresee 57 = .ok (.invokevirtual 166, 3) := by decide +kernel
theorem dX1_foresee_60 : decode cX1_foresee 60 = .ok (.iconst 0, 1) := by decide +kernel
theorem dX1_foresee_61 : decode cX1_foresee 61 = .ok (.istore 5, 2) := by decide +kernel
theorem dX1_foresee_63 : decode cX1_foresee 63 = .ok (.iload 5, 2) := by decide +kernel
theorem dX1_foresee_65 : decode cX1_foresee 65 = .ok (.iload_n 2, 1) := by decide +kernel
theorem dX1_foresee_66 : decode cX1_foresee 66 = .ok (.if_icmp .ge 29, 3) := by decide +kernel
theorem dX1_foresee_69 : decode cX1_foresee 69 = .ok (.aload_n 0, 1) := by decide +kernel
theorem dX1_foresee_70 : decode cX1_foresee 70 = .ok (.getfield 28, 3) := by decide +kernel
theorem dX1_foresee_73 : decode cX1_foresee 73 = .ok (.aload_n 0, 1) := by decide +kernel
theorem dX1_foresee_74 : decode cX1_foresee 74 = .ok (.iload 5, 2) := by decide +kernel
theorem dX1_foresee_76 : decode cX1_foresee 76 = .ok (.invokevirtual 146, 3) := by decide +kernel
theorem dX1_foresee_79 : decode cX1_foresee 79 = .ok (.aload_n 0, 1) := by decide +kernel
theorem dX1_foresee_80 : decode cX1_foresee 80 = .ok (.iload 5, 2) := by decide +kernel
theorem dX1_foresee_82 : decode cX1_foresee 82 = .ok (.invokevirtual 149, 3) := by decide +kernel
theorem dX1_foresee_85 : decode cX1_foresee 85 = .ok (.invokevirtual 152, 3) := by decide +kernel
theorem dX1_foresee_88 : decode cX1_foresee 88 = .ok (.pop, 1) := by decide +kernel
theorem dX1_foresee_89 : decode cX1_foresee 89 = .ok (.iinc 5 1, 3) := by decide +kernel
theorem dX1_foresee_92 : decode cX1_foresee 92 = .ok (.goto (-29), 3) := by decide +kernel
theorem dX1_foresee_95 : decode cX1_foresee 95 = .ok (.iload_n 3, 1) := by decide +kernel
theorem dX1_foresee_96 : decode cX1_foresee 96 = .ok (.lookupswitch 44 #[(0, 28), (1, 36)], 28) := by decide +kernel
theorem dX1_foresee_124 : decode cX1_foresee 124 = .ok (.aload_n 0, 1) := by decide +kernel
theorem dX1_foresee_125 : decode cX1_foresee 125 = .ok (.getfield 28, 3) := by decide +kernel
theorem dX1_foresee_128 : decode cX1_foresee 128 = .ok (.invokevirtual 174, 3) := by decide +kernel
theorem dX1_foresee_131 : decode cX1_foresee 131 = .ok (.ireturn, 1) := by decide +kernel
theorem dX1_foresee_132 : decode cX1_foresee 132 = .ok (.aload_n 0, 1) := by decide +kernel
theorem dX1_foresee_133 : decode cX1_foresee 133 = .ok (.getfield 28, 3) := by decide +kernel
theorem dX1_foresee_136 : decode cX1_foresee 136 = .ok (.invokevirtual 163, 3) := by decide +kernel
theorem dX1_foresee_139 : decode cX1_foresee 139 = .ok (.ireturn, 1) := by decide +kernel
theorem dX1_foresee_140 : decode cX1_foresee 140 = .ok (.aload_n 0, 1) := by decide +kernel
theorem dX1_foresee_141 : decode cX1_foresee 141 = .ok (.getfield 28, 3) := by decide +kernel
theorem dX1_foresee_144 : decode cX1_foresee 144 = .ok (.invokevirtual 177, 3) := by decide +kernel
theorem dX1_foresee_147 : decode cX1_foresee 147 = .ok (.ireturn, 1) := by decide +kernel
set_option maxRecDepth 20000 in
theorem ggX1_advise_X1_roofAt : GoodIn wsX1_advise wsX1_roofAt := goodIn_r _ [9, 10, 11, 12, 8, 13, 129, 130, 131, 132, 133, 134, 135] (by decide +kernel) (by decide +kernel)
set_option maxRecDepth 20000 in
theorem gX1_advise_X1_roofAt : GoodIn wsX1_advise (wsV RX1 69 RX1 yX1_roofAt wsX1_roofAt) := goodIn_app (goodIn_of _ (by decide +kernel)) ggX1_advise_X1_roofAt
set_option maxRecDepth 20000 in
theorem ggX1_advise_X1_isWithin : GoodIn wsX1_advise wsX1_isWithin := goodIn_r _ [13] (by decide +kernel) (by decide +kernel)
set_option maxRecDepth 20000 in
theorem gX1_advise_X1_isWithin : GoodIn wsX1_advise (va_wsS RX1 32 yX1_isWithin wsX1_isWithin) := goodIn_app (goodIn_of _ (by decide +kernel)) ggX1_advise_X1_isWithin
set_option maxRecDepth 20000 in
theorem ggX1_advise_X0_wide : GoodIn wsX1_advise wsX0_wide := goodIn_r _ [18, 19, 136, 137, 138, 139, 140, 141, 142, 143, 144, 145] (by decide +kernel) (by decide +kernel)
set_option maxRecDepth 20000 in
theorem gX1_advise_X0_wide : GoodIn wsX1_advise (wsV RX1 102 RX0 yX0_wide wsX0_wide) := goodIn_app (goodIn_of _ (by decide +kernel)) ggX1_advise_X0_wide
set_option maxRecDepth 20000 in
theorem ggX1_advise_X1_lostAt : GoodIn wsX1_advise wsX1_lostAt := goodIn_r _ [23, 24, 25, 26, 27, 17, 28, 19, 29, 30, 31, 32, 33, 34, 35, 36, 37, 38, 39, 40, 41, 42, 43, 44, 45, 46, 47, 48, 49, 50, 51, 52, 53, 54, 55, 56, 57, 58, 59, 60, 61, 62, 8, 63, 64, 65, 66, 67, 68, 69, 70, 71, 72, 73, 74, 75, 76, 77, 78, 79, 80, 81, 82, 83, 84, 85, 86, 87, 88, 89, 90, 91, 92, 93, 94, 95, 96, 97, 98, 99, 100, 101, 102, 103, 104, 105, 106, 107, 108, 109, 110, 111, 112, 113, 114, 115, 116, 117, 118, 119, 120, 121, 122, 123, 129, 130, 131, 132, 133, 134, 135, 136, 137, 138, 139, 140, 141, 142, 143, 144, 145] (by decide +kernel) (by decide +kernel)
set_option maxRecDepth 20000 in
theorem gX1_advise_X1_lostAt : GoodIn wsX1_advise (wsV RX1 182 RX1 yX1_lostAt wsX1_lostAt) := goodIn_app (goodIn_of _ (by decide +kernel)) ggX1_advise_X1_lostAt
set_option maxRecDepth 20000 in
theorem ggX1_advise_X0_high : GoodIn wsX1_advise wsX0_high := goodIn_r _ [127, 29, 136, 137, 138, 139, 140, 141, 142, 143, 144, 145] (by decide +kernel) (by decide +kernel)
set_option maxRecDepth 20000 in
theorem gX1_advise_X0_high : GoodIn wsX1_advise (wsV RX1 186 RX0 yX0_high wsX0_high) := goodIn_app (goodIn_of _ (by decide +kernel)) ggX1_advise_X0_high
set_option maxRecDepth 20000 in
theorem ggX1_advise_X0_numberOf : GoodIn wsX1_advise wsX0_numberOf := goodIn_r _ [59, 19, 136, 137, 138, 139, 140, 141, 142, 143, 144, 145] (by decide +kernel) (by decide +kernel)
set_option maxRecDepth 20000 in
theorem gX1_advise_X0_numberOf : GoodIn wsX1_advise (wsV RX1 189 RX0 yX0_numberOf wsX0_numberOf) := goodIn_app (goodIn_of _ (by decide +kernel)) ggX1_advise_X0_numberOf
theorem dX1_advise_0 : decode cX1_advise 0 = .ok (.aload_n 0, 1) := by decide +kernel
theorem dX1_advise_1 : decode cX1_advise 1 = .ok (.iload_n 1, 1) := by decide +kernel
theorem dX1_advise_2 : decode cX1_advise 2 = .ok (.invokevirtual 69, 3) := by decide +kernel
theorem dX1_advise_5 : decode cX1_advise 5 = .ok (.astore_n 3, 1) := by decide +kernel
theorem dX1_advise_6 : decode cX1_advise 6 = .ok (.aload_n 3, 1) := by decide +kernel
theorem dX1_advise_7 : decode cX1_advise 7 = .ok (.ifnonnull 13, 3) := by decide +kernel
theorem dX1_advise_10 : decode cX1_advise 10 = .ok (.new 56, 3) := by decide +kernel
theorem dX1_advise_13 : decode cX1_advise 13 = .ok (.dup, 1) := by decide +kernel
theorem dX1_advise_14 : decode cX1_advise 14 = .ok (.ldc 121, 2) := by decide +kernel
theorem dX1_advise_16 : decode cX1_advise 16 = .ok (.invokespecial 60, 3) := by decide +kernel
theorem dX1_advise_19 : decode cX1_advise 19 = .ok (.athrow, 1) := by decide +kernel
theorem dX1_advise_20 : decode cX1_advise 20 = .ok (.iload_n 2, 1) := by decide +kernel
theorem dX1_advise_21 : decode cX1_advise 21 = .ok (.iconst 1, 1) := by decide +kernel
theorem dX1_advise_22 : decode cX1_advise 22 = .ok (.bipush 24, 2) := by decide +kernel
theorem dX1_advise_24 : decode cX1_advise 24 = .ok (.invokestatic 32, 3) := by decide +kernel
theorem dX1_advise_27 : decode cX1_advise 27 = .ok (.ifCond .ne 13, 3) := by decide +kernel
theorem dX1_advise_30 : decode cX1_advise 30 = .ok (.new 36, 3) := by decide +kernel
theorem dX1_advise_33 : decode cX1_advise 33 = .ok (.dup, 1) := by decide +kernel
theorem dX1_advise_34 : decode cX1_advise 34 = .ok (.ldc 180, 2) := by decide +kernel
theorem dX1_advise_36 : decode cX1_advise 36 = .ok (.invokespecial 40, 3) := by decide +kernel
theorem dX1_advise_39 : decode cX1_advise 39 = .ok (.athrow, 1) := by decide +kernel
theorem dX1_advise_40 : decode cX1_advise 40 = .ok (.iconst (-1), 1) := by decide +kernel
theorem dX1_advise_41 : decode cX1_advise 41 = .ok (.istore 4, 2) := by decide +kernel
theorem dX1_advise_43 : decode cX1_advise 43 = .ok (.iconst 0, 1) := by decide +kernel
theorem dX1_advise_44 : decode cX1_advise 44 = .ok (.istore 5, 2) := by decide +kernel
theorem dX1_advise_46 : decode cX1_advise 46 = .ok (.iconst 0, 1) := by decide +kernel
theorem dX1_advise_47 : decode cX1_advise 47 = .ok (.istore 6, 2) := by decide +kernel
theorem dX1_advise_49 : decode cX1_advise 49 = .ok (.iload 6, 2) := by decide +kernel
theorem dX1_advise_51 : decode cX1_advise 51 = .ok (.aload_n 3, 1) := by decide +kernel
theorem dX1_advise_52 : decode cX1_advise 52 = .ok (.invokevirtual 102, 3) := by decide +kernel
theorem dX1_advise_55 : decode cX1_advise 55 = .ok (.if_icmp .ge 97, 3) := by decide +kernel
theorem dX1_advise_58 : decode cX1_advise 58 = .ok (.aload_n 0, 1) := by decide +kernel
theorem dX1_advise_59 : decode cX1_advise 59 = .ok (.aload_n 3, 1) := by decide +kernel
theorem dX1_advise_60 : decode cX1_advise 60 = .ok (.iload 6, 2) := by decide +kernel
theorem dX1_advise_62 : decode cX1_advise 62 = .ok (.iload_n 2, 1) := by decide +kernel
theorem dX1_advise_63 : decode cX1_advise 63 = .ok (.iconst (-1), 1) := by decide +kernel
theorem dX1_advise_64 : decode cX1_advise 64 = .ok (.invokevirtual 182, 3) := by decide +kernel
theorem dX1_advise_67 : decode cX1_advise 67 = .ok (.istore 7, 2) := by decide +kernel
theorem dX1_advise_69 : decode cX1_advise 69 = .ok (.iconst 0, 1) := by decide +kernel
theorem dX1_advise_70 : decode cX1_advise 70 = .ok (.istore 8, 2) := by decide +kernel
theorem dX1_advise_72 : decode cX1_advise 72 = .ok (.iload 8, 2) := by decide +kernel
theorem dX1_advise_74 : decode cX1_advise 74 = .ok (.aload_n 3, 1) := by decide +kernel
theorem dX1_advise_75 : decode cX1_advise 75 = .ok (.invokevirtual 186, 3) := by decide +kernel
theorem dX1_advise_78 : decode cX1_advise 78 = .ok (.if_icmp .ge 68, 3) := by decide +kernel
theorem dX1_advise_81 : decode cX1_advise 81 = .ok (.iload 7, 2) := by decide +kernel
theorem dX1_advise_83 : decode cX1_advise 83 = .ok (.ifCond .le 63, 3) := by decide +kernel
theorem dX1_advise_86 : decode cX1_advise 86 = .ok (.iload 7, 2) := by decide +kernel
theorem dX1_advise_88 : decode cX1_advise 88 = .ok (.aload_n 0, 1) := by decide +kernel
theorem dX1_advise_89 : decode cX1_advise 89 = .ok (.aload_n 3, 1) := by decide +kernel
theorem dX1_advise_90 : decode cX1_advise 90 = .ok (.iload 6, 2) := by decide +kernel
theorem dX1_advise_92 : decode cX1_advise 92 = .ok (.iload_n 2, 1) := by decide +kernel
theorem dX1_advise_93 : decode cX1_advise 93 = .ok (.iload 8, 2) := by decide +kernel
theorem dX1_advise_95 : decode cX1_advise 95 = .ok (.invokevirtual 182, 3) := by decide +kernel
theorem dX1_advise_98 : decode cX1_advise 98 = .ok (.isub, 1) := by decide +kernel
theorem dX1_advise_99 : decode cX1_advise 99 = .ok (.istore 9, 2) := by decide +kernel
theorem dX1_advise_101 : decode cX1_advise 101 = .ok (.aload_n 3, 1) := by decide +kernel
theorem dX1_advise_102 : decode cX1_advise 102 = .ok (.iload 8, 2) := by decide +kernel
theorem dX1_advise_104 : decode cX1_advise 104 = .ok (.iload 6, 2) := by decide +kernel
theorem dX1_advise_106 : decode cX1_advise 106 = .ok (.invokevirtual 189, 3) := by decide +kernel
theorem dX1_advise_109 : decode cX1_advise 109 = .ok (.istore 10, 2) := by decide +kernel
theorem dX1_advise_111 : decode cX1_advise 111 = .ok (.iload 9, 2) := by decide +kernel
theorem dX1_advise_113 : decode cX1_advise 113 = .ok (.iload 5, 2) := by decide +kernel
theorem dX1_advise_115 : decode cX1_advise 115 = .ok (.if_icmp .gt 17, 3) := by decide +kernel
theorem dX1_advise_118 : decode cX1_advise 118 = .ok (.iload 9, 2) := by decide +kernel
theorem dX1_advise_120 : decode cX1_advise 120 = .ok (.iload 5, 2) := by decide +kernel
theorem dX1_advise_122 : decode cX1_advise 122 = .ok (.if_icmp .ne 18, 3) := by decide +kernel
theorem dX1_advise_125 : decode cX1_advise 125 = .ok (.iload 10, 2) := by decide +kernel
theorem dX1_advise_127 : decode cX1_advise 127 = .ok (.iload 4, 2) := by decide +kernel
theorem dX1_advise_129 : decode cX1_advise 129 = .ok (.if_icmp .ge 11, 3) := by decide +kernel
theorem dX1_advise_132 : decode cX1_advise 132 = .ok (.iload 9, 2) := by decide +kernel
theorem dX1_advise_134 : decode cX1_advise 134 = .ok (.istore 5, 2) := by decide +kernel
theorem dX1_advise_136 : decode cX1_advise 136 = .ok (.iload 10, 2) := by decide +kernel
theorem dX1_advise_138 : decode cX1_advise 138 = .ok (.istore 4, 2) := by decide +kernel
theorem dX1_advise_140 : decode cX1_advise 140 = .ok (.iinc 8 1, 3) := by decide +kernel
theorem dX1_advise_143 : decode cX1_advise 143 = .ok (.goto (-71), 3) := by decide +kernel
theorem dX1_advise_146 : decode cX1_advise 146 = .ok (.iinc 6 1, 3) := by decide +kernel
theorem dX1_advise_149 : decode cX1_advise 149 = .ok (.goto (-100), 3) := by decide +kernel
theorem dX1_advise_152 : decode cX1_advise 152 = .ok (.iload 4, 2) := by decide +kernel
theorem dX1_advise_154 : decode cX1_advise 154 = .ok (.ireturn, 1) := by decide +kernel
set_option maxRecDepth 20000 in
theorem ggX1_needs_X1_roofAt : GoodIn wsX1_needs wsX1_roofAt := goodIn_r _ [9, 10, 11, 12, 8, 13, 41, 42, 43, 44, 45, 46, 47] (by decide +kernel) (by decide +kernel)
set_option maxRecDepth 20000 in
theorem gX1_needs_X1_roofAt : GoodIn wsX1_needs (wsV RX1 69 RX1 yX1_roofAt wsX1_roofAt) := goodIn_app (goodIn_of _ (by decide +kernel)) ggX1_needs_X1_roofAt
set_option maxRecDepth 20000 in
theorem ggX1_needs_X1_isWithin : GoodIn wsX1_needs wsX1_isWithin := goodIn_r _ [13] (by decide +kernel) (by decide +kernel)
set_option maxRecDepth 20000 in
theorem gX1_needs_X1_isWithin : GoodIn wsX1_needs (va_wsS RX1 32 yX1_isWithin wsX1_isWithin) := goodIn_app (goodIn_of _ (by decide +kernel)) ggX1_needs_X1_isWithin
set_option maxRecDepth 20000 in
theorem ggX1_needs_X0_wide : GoodIn wsX1_needs wsX0_wide := goodIn_r _ [18, 19, 48, 49, 50, 51, 52, 53, 54, 55, 56, 57] (by decide +kernel) (by decide +kernel)
set_option maxRecDepth 20000 in
theorem gX1_needs_X0_wide : GoodIn wsX1_needs (wsV RX1 102 RX0 yX0_wide wsX0_wide) := goodIn_app (goodIn_of _ (by decide +kernel)) ggX1_needs_X0_wide
set_option maxRecDepth 20000 in
theorem ggX1_needs_X0_high : GoodIn wsX1_needs wsX0_high := goodIn_r _ [23, 24, 48, 49, 50, 51, 52, 53, 54, 55, 56, 57] (by decide +kernel) (by decide +kernel)
set_option maxRecDepth 20000 in
theorem gX1_needs_X0_high : GoodIn wsX1_needs (wsV RX1 186 RX0 yX0_high wsX0_high) := goodIn_app (goodIn_of _ (by decide +kernel)) ggX1_needs_X0_high
set_option maxRecDepth 20000 in
theorem ggX1_needs_X0_yealms : GoodIn wsX1_needs wsX0_yealms := goodIn_r _ [28, 24, 19, 29, 30, 31, 17, 32, 33, 34, 35, 36, 37, 48, 49, 50, 51, 52, 53, 54, 55, 56, 57] (by decide +kernel) (by decide +kernel)
set_option maxRecDepth 20000 in
theorem gX1_needs_X0_yealms : GoodIn wsX1_needs (wsV RX1 174 RX0 yX0_yealms wsX0_yealms) := goodIn_app (goodIn_of _ (by decide +kernel)) ggX1_needs_X0_yealms
set_option maxRecDepth 20000 in
theorem ggX1_needs_X1_bundlesFor : GoodIn wsX1_needs wsX1_bundlesFor := goodIn_r _ [40] (by decide +kernel) (by decide +kernel)
set_option maxRecDepth 20000 in
theorem gX1_needs_X1_bundlesFor : GoodIn wsX1_needs (va_wsS RX1 87 yX1_bundlesFor wsX1_bundlesFor) := goodIn_app (goodIn_of _ (by decide +kernel)) ggX1_needs_X1_bundlesFor
theorem dX1_needs_0 : decode cX1_needs 0 = .ok (.aload_n 0, 1) := by decide +kernel
theorem dX1_needs_1 : decode cX1_needs 1 = .ok (.iload_n 1, 1) := by decide +kernel
theorem dX1_needs_2 : decode cX1_needs 2 = .ok (.invokevirtual 69, 3) := by decide +kernel
theorem dX1_needs_5 : decode cX1_needs 5 = .ok (.astore_n 3, 1) := by decide +kernel
theorem dX1_needs_6 : decode cX1_needs 6 = .ok (.aload_n 3, 1) := by decide +kernel
theorem dX1_needs_7 : decode cX1_needs 7 = .ok (.ifnonnull 13, 3) := by decide +kernel
theorem dX1_needs_10 : decode cX1_needs 10 = .ok (.new 56, 3) := by decide +kernel
theorem dX1_needs_13 : decode cX1_needs 13 = .ok (.dup, 1) := by decide +kernel
theorem dX1_needs_14 : decode cX1_needs 14 = .ok (.ldc 121, 2) := by decide +kernel
theorem dX1_needs_16 : decode cX1_needs 16 = .ok (.invokespecial 60, 3) := by decide +kernel
theorem dX1_needs_19 : decode cX1_needs 19 = .ok (.athrow, 1) := by decide +kernel
theorem dX1_needs_20 : decode cX1_needs 20 = .ok (.iload_n 2, 1) := by decide +kernel
theorem dX1_needs_21 : decode cX1_needs 21 = .ok (.iconst 1, 1) := by decide +kernel
theorem dX1_needs_22 : decode cX1_needs 22 = .ok (.bipush 40, 2) := by decide +kernel
theorem dX1_needs_24 : decode cX1_needs 24 = .ok (.invokestatic 32, 3) := by decide +kernel
theorem dX1_needs_27 : decode cX1_needs 27 = .ok (.ifCond .ne 13, 3) := by decide +kernel
theorem dX1_needs_30 : decode cX1_needs 30 = .ok (.new 36, 3) := by decide +kernel
theorem dX1_needs_33 : decode cX1_needs 33 = .ok (.dup, 1) := by decide +kernel
theorem dX1_needs_34 : decode cX1_needs 34 = .ok (.ldc 192, 2) := by decide +kernel
theorem dX1_needs_36 : decode cX1_needs 36 = .ok (.invokespecial 40, 3) := by decide +kernel
theorem dX1_needs_39 : decode cX1_needs 39 = .ok (.athrow, 1) := by decide +kernel
theorem dX1_needs_40 : decode cX1_needs 40 = .ok (.aload_n 3, 1) := by decide +kernel
theorem dX1_needs_41 : decode cX1_needs 41 = .ok (.invokevirtual 102, 3) := by decide +kernel
theorem dX1_needs_44 : decode cX1_needs 44 = .ok (.aload_n 3, 1) := by decide +kernel
theorem dX1_needs_45 : decode cX1_needs 45 = .ok (.invokevirtual 186, 3) := by decide +kernel
theorem dX1_needs_48 : decode cX1_needs 48 = .ok (.imul, 1) := by decide +kernel
theorem dX1_needs_49 : decode cX1_needs 49 = .ok (.aload_n 3, 1) := by decide +kernel
theorem dX1_needs_50 : decode cX1_needs 50 = .ok (.invokevirtual 174, 3) := by decide +kernel
theorem dX1_needs_53 : decode cX1_needs 53 = .ok (.isub, 1) := by decide +kernel
theorem dX1_needs_54 : decode cX1_needs 54 = .ok (.istore 4, 2) := by decide +kernel
theorem dX1_needs_56 : decode cX1_needs 56 = .ok (.iload 4, 2) := by decide +kernel
theorem dX1_needs_58 : decode cX1_needs 58 = .ok (.iload_n 2, 1) := by decide +kernel
theorem dX1_needs_59 : decode cX1_needs 59 = .ok (.invokestatic 87, 3) := by decide +kernel
theorem dX1_needs_62 : decode cX1_needs 62 = .ok (.imul, 1) := by decide +kernel
theorem dX1_needs_63 : decode cX1_needs 63 = .ok (.ireturn, 1) := by decide +kernel
set_option maxRecDepth 20000 in
theorem ggX1_mean_X0_yealms : GoodIn wsX1_mean wsX0_yealms := goodIn_r _ [6, 7, 8, 9, 10, 11, 5, 12, 13, 14, 15, 16, 17, 33, 34, 35, 36, 37, 38, 39, 40, 41, 42] (by decide +kernel) (by decide +kernel)
set_option maxRecDepth 20000 in
theorem gX1_mean_X0_yealms : GoodIn wsX1_mean (wsV RX1 174 RX0 yX0_yealms wsX0_yealms) := goodIn_app (goodIn_of _ (by decide +kernel)) ggX1_mean_X0_yealms
set_option maxRecDepth 20000 in
theorem ggX1_mean_X0_thicknessInAll : GoodIn wsX1_mean wsX0_thicknessInAll := goodIn_r _ [21, 8, 22, 23, 24, 5, 25, 7, 13, 14, 15, 16, 17, 33, 34, 35, 36, 37, 38, 39, 40, 41, 42] (by decide +kernel) (by decide +kernel)
set_option maxRecDepth 20000 in
theorem gX1_mean_X0_thicknessInAll : GoodIn wsX1_mean (wsV RX1 194 RX0 yX0_thicknessInAll wsX0_thicknessInAll) := goodIn_app (goodIn_of _ (by decide +kernel)) ggX1_mean_X0_thicknessInAll
theorem dX1_mean_0 : decode cX1_mean 0 = .ok (.iconst 0, 1) := by decide +kernel
theorem dX1_mean_1 : decode cX1_mean 1 = .ok (.istore_n 1, 1) := by decide +kernel
theorem dX1_mean_2 : decode cX1_mean 2 = .ok (.iconst 0, 1) := by decide +kernel
theorem dX1_mean_3 : decode cX1_mean 3 = .ok (.istore_n 2, 1) := by decide +kernel
theorem dX1_mean_4 : decode cX1_mean 4 = .ok (.iconst 0, 1) := by decide +kernel
theorem dX1_mean_5 : decode cX1_mean 5 = .ok (.istore_n 3, 1) := by decide +kernel
theorem dX1_mean_6 : decode cX1_mean 6 = .ok (.iload_n 3, 1) := by decide +kernel
theorem dX1_mean_7 : decode cX1_mean 7 = .ok (.bipush 6, 2) := by decide +kernel
theorem dX1_mean_9 : decode cX1_mean 9 = .ok (.if_icmp .ge 38, 3) := by decide +kernel
theorem dX1_mean_12 : decode cX1_mean 12 = .ok (.aload_n 0, 1) := by decide +kernel
theorem dX1_mean_13 : decode cX1_mean 13 = .ok (.getfield 11, 3) := by decide +kernel
theorem dX1_mean_16 : decode cX1_mean 16 = .ok (.iload_n 3, 1) := by decide +kernel
theorem dX1_mean_17 : decode cX1_mean 17 = .ok (.aaload, 1) := by decide +kernel
theorem dX1_mean_18 : decode cX1_mean 18 = .ok (.astore 4, 2) := by decide +kernel
theorem dX1_mean_20 : decode cX1_mean 20 = .ok (.aload 4, 2) := by decide +kernel
theorem dX1_mean_22 : decode cX1_mean 22 = .ok (.ifnull 19, 3) := by decide +kernel
theorem dX1_mean_25 : decode cX1_mean 25 = .ok (.iload_n 1, 1) := by decide +kernel
theorem dX1_mean_26 : decode cX1_mean 26 = .ok (.aload 4, 2) := by decide +kernel
theorem dX1_mean_28 : decode cX1_mean 28 = .ok (.invokevirtual 174, 3) := by decide +kernel
theorem dX1_mean_31 : decode cX1_mean 31 = .ok (.iadd, 1) := by decide +kernel
theorem dX1_mean_32 : decode cX1_mean 32 = .ok (.istore_n 1, 1) := by decide +kernel
theorem dX1_mean_33 : decode cX1_mean 33 = .ok (.iload_n 2, 1) := by decide +kernel
theorem dX1_mean_34 : decode cX1_mean 34 = .ok (.aload 4, 2) := by decide +kernel
theorem dX1_mean_36 : decode cX1_mean 36 = .ok (.invokevirtual 194, 3) := by decide +kernel
theorem dX1_mean_39 : decode cX1_mean 39 = .ok (.iadd, 1) := by decide +kernel
theorem dX1_mean_40 : decode cX1_mean 40 = .ok (.istore_n 2, 1) := by decide +kernel
theorem dX1_mean_41 : decode cX1_mean 41 = .ok (.iinc 3 1, 3) := by decide +kernel
theorem dX1_mean_44 : decode cX1_mean 44 = .ok (.goto (-38), 3) := by decide +kernel
theorem dX1_mean_47 : decode cX1_mean 47 = .ok (.iload_n 1, 1) := by decide +kernel
theorem dX1_mean_48 : decode cX1_mean 48 = .ok (.ifCond .ne 7, 3) := by decide +kernel
theorem dX1_mean_51 : decode cX1_mean 51 = .ok (.dconst 0, 1) := by decide +kernel
theorem dX1_mean_52 : decode cX1_mean 52 = .ok (.goto 8, 3) := by decide +kernel
theorem dX1_mean_55 : decode cX1_mean 55 = .ok (.iload_n 2, 1) := by decide +kernel
theorem dX1_mean_56 : decode cX1_mean 56 = .ok (.i2d, 1) := by decide +kernel
theorem dX1_mean_57 : decode cX1_mean 57 = .ok (.iload_n 1, 1) := by decide +kernel
theorem dX1_mean_58 : decode cX1_mean 58 = .ok (.i2d, 1) := by decide +kernel
theorem dX1_mean_59 : decode cX1_mean 59 = .ok (.ddiv, 1) := by decide +kernel
theorem dX1_mean_60 : decode cX1_mean 60 = .ok (.dreturn, 1) := by decide +kernel
set_option maxRecDepth 20000 in
theorem ggX1_digest_X1_tally : GoodIn wsX1_digest wsX1_tally := goodIn_r _ [10, 11, 12, 13, 14, 15, 16, 9, 17, 5, 18, 19, 20, 21, 22, 23, 24, 25, 26, 27, 28, 29, 30, 31, 32, 33, 34, 35, 36, 37, 38, 39, 40, 41, 42, 43, 44, 45, 46, 47, 48, 49, 50, 51, 52, 53, 54, 55, 56, 57, 3, 58, 59, 60, 61, 62, 63, 64, 65, 66, 67, 68, 69, 4, 100, 101, 102, 103, 104, 105, 106, 107, 108, 109, 110, 111, 112, 113, 114, 115, 116] (by decide +kernel) (by decide +kernel)
set_option maxRecDepth 20000 in
theorem gX1_digest_X1_tally : GoodIn wsX1_digest (wsV RX1 141 RX1 yX1_tally wsX1_tally) := goodIn_app (goodIn_of _ (by decide +kernel)) ggX1_digest_X1_tally
set_option maxRecDepth 20000 in
theorem ggX1_digest_X1_digestRoof : GoodIn wsX1_digest wsX1_digestRoof := goodIn_r _ [72, 2, 18, 19, 20, 21, 22, 23, 24, 25, 26, 27, 28, 29, 30, 31, 32, 33, 34, 35, 36, 37, 38, 39, 40, 41, 42, 43, 44, 45, 46, 47, 48, 49, 50, 51, 52, 53, 73, 74, 75, 76, 77, 78, 79, 80, 81, 82, 83, 84, 85, 86, 87, 88, 89, 90, 91, 92, 93, 94, 95, 96, 97, 98, 99, 107, 108, 109, 110, 111, 112, 113, 114, 115, 116] (by decide +kernel) (by decide +kernel)
set_option maxRecDepth 20000 in
theorem gX1_digest_X1_digestRoof : GoodIn wsX1_digest (va_wsS RX1 201 yX1_digestRoof wsX1_digestRoof) := goodIn_app (goodIn_of _ (by decide +kernel)) ggX1_digest_X1_digestRoof
theorem dX1_digest_0 : decode cX1_digest 0 = .ok (.ldc2_w 197, 3) := by decide +kernel
theorem dX1_digest_3 : decode cX1_digest 3 = .ok (.lstore_n 1, 1) := by decide +kernel
theorem dX1_digest_4 : decode cX1_digest 4 = .ok (.iconst 0, 1) := by decide +kernel
theorem dX1_digest_5 : decode cX1_digest 5 = .ok (.istore_n 3, 1) := by decide +kernel
theorem dX1_digest_6 : decode cX1_digest 6 = .ok (.iload_n 3, 1) := by decide +kernel
theorem dX1_digest_7 : decode cX1_digest 7 = .ok (.bipush 9, 2) := by decide +kernel
theorem dX1_digest_9 : decode cX1_digest 9 = .ok (.if_icmp .ge 22, 3) := by decide +kernel
theorem dX1_digest_12 : decode cX1_digest 12 = .ok (.lload_n 1, 1) := by decide +kernel
theorem dX1_digest_13 : decode cX1_digest 13 = .ok (.ldc2_w 199, 3) := by decide +kernel
theorem dX1_digest_16 : decode cX1_digest 16 = .ok (.lmul, 1) := by decide +kernel
theorem dX1_digest_17 : decode cX1_digest 17 = .ok (.aload_n 0, 1) := by decide +kernel
theorem dX1_digest_18 : decode cX1_digest 18 = .ok (.iload_n 3, 1) := by decide +kernel
theorem dX1_digest_19 : decode cX1_digest 19 = .ok (.invokevirtual 141, 3) := by decide +kernel
theorem dX1_digest_22 : decode cX1_digest 22 = .ok (.i2l, 1) := by decide +kernel
theorem dX1_digest_23 : decode cX1_digest 23 = .ok (.ladd, 1) := by decide +kernel
theorem dX1_digest_24 : decode cX1_digest 24 = .ok (.lstore_n 1, 1) := by decide +kernel
theorem dX1_digest_25 : decode cX1_digest 25 = .ok (.iinc 3 1, 3) := by decide +kernel
theorem dX1_digest_28 : decode cX1_digest 28 = .ok (.goto (-22), 3) := by decide +kernel
theorem dX1_digest_31 : decode cX1_digest 31 = .ok (.iconst 0, 1) := by decide +kernel
theorem dX1_digest_32 : decode cX1_digest 32 = .ok (.istore_n 3, 1) := by decide +kernel
theorem dX1_digest_33 : decode cX1_digest 33 = .ok (.iload_n 3, 1) := by decide +kernel
theorem dX1_digest_34 : decode cX1_digest 34 = .ok (.bipush 12, 2) := by decide +kernel
theorem dX1_digest_36 : decode cX1_digest 36 = .ok (.if_icmp .ge 33, 3) := by decide +kernel
theorem dX1_digest_39 : decode cX1_digest 39 = .ok (.lload_n 1, 1) := by decide +kernel
theorem dX1_digest_40 : decode cX1_digest 40 = .ok (.ldc2_w 199, 3) := by decide +kernel
theorem dX1_digest_43 : decode cX1_digest 43 = .ok (.lmul, 1) := by decide +kernel
theorem dX1_digest_44 : decode cX1_digest 44 = .ok (.bipush 10, 2) := by decide +kernel
theorem dX1_digest_46 : decode cX1_digest 46 = .ok (.aload_n 0, 1) := by decide +kernel
theorem dX1_digest_47 : decode cX1_digest 47 = .ok (.getfield 19, 3) := by decide +kernel
theorem dX1_digest_50 : decode cX1_digest 50 = .ok (.iload_n 3, 1) := by decide +kernel
theorem dX1_digest_51 : decode cX1_digest 51 = .ok (.iaload, 1) := by decide +kernel
theorem dX1_digest_52 : decode cX1_digest 52 = .ok (.imul, 1) := by decide +kernel
theorem dX1_digest_53 : decode cX1_digest 53 = .ok (.aload_n 0, 1) := by decide +kernel
theorem dX1_digest_54 : decode cX1_digest 54 = .ok (.getfield 22, 3) := by decide +kernel
theorem dX1_digest_57 : decode cX1_digest 57 = .ok (.iload_n 3, 1) := by decide +kernel
theorem dX1_digest_58 : decode cX1_digest 58 = .ok (.iaload, 1) := by decide +kernel
theorem dX1_digest_59 : decode cX1_digest 59 = .ok (.iadd, 1) := by decide +kernel
theorem dX1_digest_60 : decode cX1_digest 60 = .ok (.i2l, 1) := by decide +kernel
theorem dX1_digest_61 : decode cX1_digest 61 = .ok (.ladd, 1) := by decide +kernel
theorem dX1_digest_62 : decode cX1_digest 62 = .ok (.lstore_n 1, 1) := by decide +kernel
theorem dX1_digest_63 : decode cX1_digest 63 = .ok (.iinc 3 1, 3) := by decide +kernel
theorem dX1_digest_66 : decode cX1_digest 66 = .ok (.goto (-33), 3) := by decide +kernel
theorem dX1_digest_69 : decode cX1_digest 69 = .ok (.iconst 0, 1) := by decide +kernel
theorem dX1_digest_70 : decode cX1_digest 70 = .ok (.istore_n 3, 1) := by decide +kernel
theorem dX1_digest_71 : decode cX1_digest 71 = .ok (.iload_n 3, 1) := by decide +kernel
theorem dX1_digest_72 : decode cX1_digest 72 = .ok (.bipush 6, 2) := by decide +kernel
theorem dX1_digest_74 : decode cX1_digest 74 = .ok (.if_icmp .ge 29, 3) := by decide +kernel
theorem dX1_digest_77 : decode cX1_digest 77 = .ok (.aload_n 0, 1) := by decide +kernel
theorem dX1_digest_78 : decode cX1_digest 78 = .ok (.getfield 11, 3) := by decide +kernel
theorem dX1_digest_81 : decode cX1_digest 81 = .ok (.iload_n 3, 1) := by decide +kernel
theorem dX1_digest_82 : decode cX1_digest 82 = .ok (.aaload, 1) := by decide +kernel
theorem dX1_digest_83 : decode cX1_digest 83 = .ok (.astore 4, 2) := by decide +kernel
theorem dX1_digest_85 : decode cX1_digest 85 = .ok (.aload 4, 2) := by decide +kernel
theorem dX1_digest_87 : decode cX1_digest 87 = .ok (.ifnull 10, 3) := by decide +kernel
theorem dX1_digest_90 : decode cX1_digest 90 = .ok (.aload 4, 2) := by decide +kernel
theorem dX1_digest_92 : decode cX1_digest 92 = .ok (.lload_n 1, 1) := by decide +kernel
theorem dX1_digest_93 : decode cX1_digest 93 = .ok (.invokestatic 201, 3) := by decide +kernel
theorem dX1_digest_96 : decode cX1_digest 96 = .ok (.lstore_n 1, 1) := by decide +kernel
theorem dX1_digest_97 : decode cX1_digest 97 = .ok (.iinc 3 1, 3) := by decide +kernel
theorem dX1_digest_100 : decode cX1_digest 100 = .ok (.goto (-29), 3) := by decide +kernel
theorem dX1_digest_103 : decode cX1_digest 103 = .ok (.lload_n 1, 1) := by decide +kernel
theorem dX1_digest_104 : decode cX1_digest 104 = .ok (.lreturn, 1) := by decide +kernel
set_option maxRecDepth 20000 in
theorem ggX1_digestRoof_X0_tell : GoodIn wsX1_digestRoof wsX0_tell := goodIn_r _ [6, 7, 8, 9, 10, 11, 12, 13, 14, 15, 5, 16, 17, 18, 19, 20, 21, 22, 23, 24, 25, 26, 27, 28, 29, 30, 31, 32, 33, 34, 35, 36, 37, 65, 66, 67, 68, 69, 70, 71, 72, 73, 74] (by decide +kernel) (by decide +kernel)
set_option maxRecDepth 20000 in
theorem gX1_digestRoof_X0_tell : GoodIn wsX1_digestRoof (wsV RX1 136 RX0 yX0_tell wsX0_tell) := goodIn_app (goodIn_of _ (by decide +kernel)) ggX1_digestRoof_X0_tell
set_option maxRecDepth 20000 in
theorem ggX1_digestRoof_X0_high : GoodIn wsX1_digestRoof wsX0_high := goodIn_r _ [41, 8, 65, 66, 67, 68, 69, 70, 71, 72, 73, 74] (by decide +kernel) (by decide +kernel)
set_option maxRecDepth 20000 in
theorem gX1_digestRoof_X0_high : GoodIn wsX1_digestRoof (wsV RX1 186 RX0 yX0_high wsX0_high) := goodIn_app (goodIn_of _ (by decide +kernel)) ggX1_digestRoof_X0_high
set_option maxRecDepth 20000 in
theorem ggX1_digestRoof_X0_wide : GoodIn wsX1_digestRoof wsX0_wide := goodIn_r _ [45, 7, 65, 66, 67, 68, 69, 70, 71, 72, 73, 74] (by decide +kernel) (by decide +kernel)
set_option maxRecDepth 20000 in
theorem gX1_digestRoof_X0_wide : GoodIn wsX1_digestRoof (wsV RX1 102 RX0 yX0_wide wsX0_wide) := goodIn_app (goodIn_of _ (by decide +kernel)) ggX1_digestRoof_X0_wide
set_option maxRecDepth 20000 in
theorem ggX1_digestRoof_X0_tellYealm : GoodIn wsX1_digestRoof wsX0_tellYealm := goodIn_r _ [49, 50, 25, 51, 52, 17, 18, 19, 5, 20, 21, 22, 23, 24, 8, 7, 53, 54, 55, 56, 57, 58, 59, 60, 61, 62, 63, 64, 65, 66, 67, 68, 69, 70, 71, 72, 73, 74] (by decide +kernel) (by decide +kernel)
set_option maxRecDepth 20000 in
theorem gX1_digestRoof_X0_tellYealm : GoodIn wsX1_digestRoof (wsV RX1 130 RX0 yX0_tellYealm wsX0_tellYealm) := goodIn_app (goodIn_of _ (by decide +kernel)) ggX1_digestRoof_X0_tellYealm
theorem dX1_digestRoof_0 : decode cX1_digestRoof 0 = .ok (.lload_n 1, 1) := by decide +kernel
theorem dX1_digestRoof_1 : decode cX1_digestRoof 1 = .ok (.lstore_n 3, 1) := by decide +kernel
theorem dX1_digestRoof_2 : decode cX1_digestRoof 2 = .ok (.iconst 0, 1) := by decide +kernel
theorem dX1_digestRoof_3 : decode cX1_digestRoof 3 = .ok (.istore 5, 2) := by decide +kernel
theorem dX1_digestRoof_5 : decode cX1_digestRoof 5 = .ok (.iload 5, 2) := by decide +kernel
theorem dX1_digestRoof_7 : decode cX1_digestRoof 7 = .ok (.bipush 9, 2) := by decide +kernel
theorem dX1_digestRoof_9 : decode cX1_digestRoof 9 = .ok (.if_icmp .ge 23, 3) := by decide +kernel
theorem dX1_digestRoof_12 : decode cX1_digestRoof 12 = .ok (.lload_n 3, 1) := by decide +kernel
theorem dX1_digestRoof_13 : decode cX1_digestRoof 13 = .ok (.ldc2_w 199, 3) := by decide +kernel
theorem dX1_digestRoof_16 : decode cX1_digestRoof 16 = .ok (.lmul, 1) := by decide +kernel
theorem dX1_digestRoof_17 : decode cX1_digestRoof 17 = .ok (.aload_n 0, 1) := by decide +kernel
theorem dX1_digestRoof_18 : decode cX1_digestRoof 18 = .ok (.iload 5, 2) := by decide +kernel
theorem dX1_digestRoof_20 : decode cX1_digestRoof 20 = .ok (.invokevirtual 136, 3) := by decide +kernel
theorem dX1_digestRoof_23 : decode cX1_digestRoof 23 = .ok (.i2l, 1) := by decide +kernel
theorem dX1_digestRoof_24 : decode cX1_digestRoof 24 = .ok (.ladd, 1) := by decide +kernel
theorem dX1_digestRoof_25 : decode cX1_digestRoof 25 = .ok (.lstore_n 3, 1) := by decide +kernel
theorem dX1_digestRoof_26 : decode cX1_digestRoof 26 = .ok (.iinc 5 1, 3) := by decide +kernel
theorem dX1_digestRoof_29 : decode cX1_digestRoof 29 = .ok (.goto (-24), 3) := by decide +kernel
theorem dX1_digestRoof_32 : decode cX1_digestRoof 32 = .ok (.iconst 0, 1) := by decide +kernel
theorem dX1_digestRoof_33 : decode cX1_digestRoof 33 = .ok (.istore 5, 2) := by decide +kernel
theorem dX1_digestRoof_35 : decode cX1_digestRoof 35 = .ok (.iload 5, 2) := by decide +kernel
theorem dX1_digestRoof_37 : decode cX1_digestRoof 37 = .ok (.aload_n 0, 1) := by decide +kernel
theorem dX1_digestRoof_38 : decode cX1_digestRoof 38 = .ok (.invokevirtual 186, 3) := by decide +kernel
theorem dX1_digestRoof_41 : decode cX1_digestRoof 41 = .ok (.if_icmp .ge 61, 3) := by decide +kernel
theorem dX1_digestRoof_44 : decode cX1_digestRoof 44 = .ok (.iconst 0, 1) := by decide +kernel
theorem dX1_digestRoof_45 : decode cX1_digestRoof 45 = .ok (.istore 6, 2) := by decide +kernel
theorem dX1_digestRoof_47 : decode cX1_digestRoof 47 = .ok (.iload 6, 2) := by decide +kernel
theorem dX1_digestRoof_49 : decode cX1_digestRoof 49 = .ok (.aload_n 0, 1) := by decide +kernel
theorem dX1_digestRoof_50 : decode cX1_digestRoof 50 = .ok (.invokevirtual 102, 3) := by decide +kernel
theorem dX1_digestRoof_53 : decode cX1_digestRoof 53 = .ok (.if_icmp .ge 43, 3) := by decide +kernel
theorem dX1_digestRoof_56 : decode cX1_digestRoof 56 = .ok (.iconst 0, 1) := by decide +kernel
theorem dX1_digestRoof_57 : decode cX1_digestRoof 57 = .ok (.istore 7, 2) := by decide +kernel
theorem dX1_digestRoof_59 : decode cX1_digestRoof 59 = .ok (.iload 7, 2) := by decide +kernel
theorem dX1_digestRoof_61 : decode cX1_digestRoof 61 = .ok (.bipush 6, 2) := by decide +kernel
theorem dX1_digestRoof_63 : decode cX1_digestRoof 63 = .ok (.if_icmp .ge 27, 3) := by decide +kernel
theorem dX1_digestRoof_66 : decode cX1_digestRoof 66 = .ok (.lload_n 3, 1) := by decide +kernel
theorem dX1_digestRoof_67 : decode cX1_digestRoof 67 = .ok (.ldc2_w 199, 3) := by decide +kernel
theorem dX1_digestRoof_70 : decode cX1_digestRoof 70 = .ok (.lmul, 1) := by decide +kernel
theorem dX1_digestRoof_71 : decode cX1_digestRoof 71 = .ok (.aload_n 0, 1) := by decide +kernel
theorem dX1_digestRoof_72 : decode cX1_digestRoof 72 = .ok (.iload 5, 2) := by decide +kernel
theorem dX1_digestRoof_74 : decode cX1_digestRoof 74 = .ok (.iload 6, 2) := by decide +kernel
theorem dX1_digestRoof_76 : decode cX1_digestRoof 76 = .ok (.iload 7, 2) := by decide +kernel
theorem dX1_digestRoof_78 : decode cX1_digestRoof 78 = .ok (.invokevirtual 130, 3) := by decide +kernel
theorem dX1_digestRoof_81 : decode cX1_digestRoof 81 = .ok (.i2l, 1) := by decide +kernel
theorem dX1_digestRoof_82 : decode cX1_digestRoof 82 = .ok (.ladd, 1) := by decide +kernel
theorem dX1_digestRoof_83 : decode cX1_digestRoof 83 = .ok (.lstore_n 3, 1) := by decide +kernel
theorem dX1_digestRoof_84 : decode cX1_digestRoof 84 = .ok (.iinc 7 1, 3) := by decide +kernel
theorem dX1_digestRoof_87 : decode cX1_digestRoof 87 = .ok (.goto (-28), 3) := by decide +kernel
theorem dX1_digestRoof_90 : decode cX1_digestRoof 90 = .ok (.iinc 6 1, 3) := by decide +kernel
theorem dX1_digestRoof_93 : decode cX1_digestRoof 93 = .ok (.goto (-46), 3) := by decide +kernel
theorem dX1_digestRoof_96 : decode cX1_digestRoof 96 = .ok (.iinc 5 1, 3) := by decide +kernel
theorem dX1_digestRoof_99 : decode cX1_digestRoof 99 = .ok (.goto (-64), 3) := by decide +kernel
theorem dX1_digestRoof_102 : decode cX1_digestRoof 102 = .ok (.lload_n 3, 1) := by decide +kernel
theorem dX1_digestRoof_103 : decode cX1_digestRoof 103 = .ok (.lreturn, 1) := by decide +kernel
theorem dX1_isWithin_0 : decode cX1_isWithin 0 = .ok (.iload_n 0, 1) := by decide +kernel
theorem dX1_isWithin_1 : decode cX1_isWithin 1 = .ok (.iload_n 1, 1) := by decide +kernel
theorem dX1_isWithin_2 : decode cX1_isWithin 2 = .ok (.if_icmp .lt 12, 3) := by decide +kernel
theorem dX1_isWithin_5 : decode cX1_isWithin 5 = .ok (.iload_n 0, 1) := by decide +kernel
theorem dX1_isWithin_6 : decode cX1_isWithin 6 = .ok (.iload_n 2, 1) := by decide +kernel
theorem dX1_isWithin_7 : decode cX1_isWithin 7 = .ok (.if_icmp .gt 7, 3) := by decide +kernel
theorem dX1_isWithin_10 : decode cX1_isWithin 10 = .ok (.iconst 1, 1) := by decide +kernel
theorem dX1_isWithin_11 : decode cX1_isWithin 11 = .ok (.goto 4, 3) := by decide +kernel
theorem dX1_isWithin_14 : decode cX1_isWithin 14 = .ok (.iconst 0, 1) := by decide +kernel
theorem dX1_isWithin_15 : decode cX1_isWithin 15 = .ok (.ireturn, 1) := by decide +kernel
set_option maxRecDepth 20000 in
theorem ggX1_isYealm_X1_isWithin : GoodIn wsX1_isYealm wsX1_isWithin := goodIn_r _ [4] (by decide +kernel) (by decide +kernel)
set_option maxRecDepth 20000 in
theorem gX1_isYealm_X1_isWithin : GoodIn wsX1_isYealm (va_wsS RX1 32 yX1_isWithin wsX1_isWithin) := goodIn_app (goodIn_of _ (by decide +kernel)) ggX1_isYealm_X1_isWithin
theorem dX1_isYealm_0 : decode cX1_isYealm 0 = .ok (.iload_n 0, 1) := by decide +kernel
theorem dX1_isYealm_1 : decode cX1_isYealm 1 = .ok (.iconst 1, 1) := by decide +kernel
theorem dX1_isYealm_2 : decode cX1_isYealm 2 = .ok (.bipush 40, 2) := by decide +kernel
theorem dX1_isYealm_4 : decode cX1_isYealm 4 = .ok (.invokestatic 32, 3) := by decide +kernel
theorem dX1_isYealm_7 : decode cX1_isYealm 7 = .ok (.ifCond .eq 17, 3) := by decide +kernel
theorem dX1_isYealm_10 : decode cX1_isYealm 10 = .ok (.iload_n 1, 1) := by decide +kernel
theorem dX1_isYealm_11 : decode cX1_isYealm 11 = .ok (.iconst 0, 1) := by decide +kernel
theorem dX1_isYealm_12 : decode cX1_isYealm 12 = .ok (.bipush 9, 2) := by decide +kernel
theorem dX1_isYealm_14 : decode cX1_isYealm 14 = .ok (.invokestatic 32, 3) := by decide +kernel
theorem dX1_isYealm_17 : decode cX1_isYealm 17 = .ok (.ifCond .eq 7, 3) := by decide +kernel
theorem dX1_isYealm_20 : decode cX1_isYealm 20 = .ok (.iconst 1, 1) := by decide +kernel
theorem dX1_isYealm_21 : decode cX1_isYealm 21 = .ok (.goto 4, 3) := by decide +kernel
theorem dX1_isYealm_24 : decode cX1_isYealm 24 = .ok (.iconst 0, 1) := by decide +kernel
theorem dX1_isYealm_25 : decode cX1_isYealm 25 = .ok (.ireturn, 1) := by decide +kernel
set_option maxRecDepth 20000 in
theorem ggX1_isKind_X1_isWithin : GoodIn wsX1_isKind wsX1_isWithin := goodIn_r _ [4] (by decide +kernel) (by decide +kernel)
set_option maxRecDepth 20000 in
theorem gX1_isKind_X1_isWithin : GoodIn wsX1_isKind (va_wsS RX1 32 yX1_isWithin wsX1_isWithin) := goodIn_app (goodIn_of _ (by decide +kernel)) ggX1_isKind_X1_isWithin
theorem dX1_isKind_0 : decode cX1_isKind 0 = .ok (.iload_n 0, 1) := by decide +kernel
theorem dX1_isKind_1 : decode cX1_isKind 1 = .ok (.iconst 0, 1) := by decide +kernel
theorem dX1_isKind_2 : decode cX1_isKind 2 = .ok (.iconst 2, 1) := by decide +kernel
theorem dX1_isKind_3 : decode cX1_isKind 3 = .ok (.invokestatic 32, 3) := by decide +kernel
theorem dX1_isKind_6 : decode cX1_isKind 6 = .ok (.ireturn, 1) := by decide +kernel
theorem dX1_bundlesFor_0 : decode cX1_bundlesFor 0 = .ok (.iload_n 0, 1) := by decide +kernel
theorem dX1_bundlesFor_1 : decode cX1_bundlesFor 1 = .ok (.iconst 4, 1) := by decide +kernel
theorem dX1_bundlesFor_2 : decode cX1_bundlesFor 2 = .ok (.idiv, 1) := by decide +kernel
theorem dX1_bundlesFor_3 : decode cX1_bundlesFor 3 = .ok (.iconst 1, 1) := by decide +kernel
theorem dX1_bundlesFor_4 : decode cX1_bundlesFor 4 = .ok (.iadd, 1) := by decide +kernel
theorem dX1_bundlesFor_5 : decode cX1_bundlesFor 5 = .ok (.ireturn, 1) := by decide +kernel
set_option maxRecDepth 20000 in
theorem ggX1_roofAt_X1_isWithin : GoodIn wsX1_roofAt wsX1_isWithin := goodIn_r _ [5] (by decide +kernel) (by decide +kernel)
set_option maxRecDepth 20000 in
theorem gX1_roofAt_X1_isWithin : GoodIn wsX1_roofAt (va_wsS RX1 32 yX1_isWithin wsX1_isWithin) := goodIn_app (goodIn_of _ (by decide +kernel)) ggX1_roofAt_X1_isWithin
theorem dX1_roofAt_0 : decode cX1_roofAt 0 = .ok (.iload_n 1, 1) := by decide +kernel
theorem dX1_roofAt_1 : decode cX1_roofAt 1 = .ok (.iconst 0, 1) := by decide +kernel
theorem dX1_roofAt_2 : decode cX1_roofAt 2 = .ok (.iconst 5, 1) := by decide +kernel
theorem dX1_roofAt_3 : decode cX1_roofAt 3 = .ok (.invokestatic 32, 3) := by decide +kernel
theorem dX1_roofAt_6 : decode cX1_roofAt 6 = .ok (.ifCond .eq 12, 3) := by decide +kernel
theorem dX1_roofAt_9 : decode cX1_roofAt 9 = .ok (.aload_n 0, 1) := by decide +kernel
theorem dX1_roofAt_10 : decode cX1_roofAt 10 = .ok (.getfield 11, 3) := by decide +kernel
theorem dX1_roofAt_13 : decode cX1_roofAt 13 = .ok (.iload_n 1, 1) := by decide +kernel
theorem dX1_roofAt_14 : decode cX1_roofAt 14 = .ok (.aaload, 1) := by decide +kernel
theorem dX1_roofAt_15 : decode cX1_roofAt 15 = .ok (.goto 4, 3) := by decide +kernel
theorem dX1_roofAt_18 : decode cX1_roofAt 18 = .ok (.aconst_null, 1) := by decide +kernel
theorem dX1_roofAt_19 : decode cX1_roofAt 19 = .ok (.areturn, 1) := by decide +kernel
set_option maxRecDepth 20000 in
theorem ggX1_monthOfYear_J9_floorMod_7cf53 : GoodIn wsX1_monthOfYear wsJ9_floorMod_7cf53 := goodIn_r _ [5] (by decide +kernel) (by decide +kernel)
set_option maxRecDepth 20000 in
theorem gX1_monthOfYear_J9_floorMod_7cf53 : GoodIn wsX1_monthOfYear (va_wsS RX1 205 yJ9_floorMod_7cf53 wsJ9_floorMod_7cf53) := goodIn_app (goodIn_of _ (by decide +kernel)) ggX1_monthOfYear_J9_floorMod_7cf53
theorem dX1_monthOfYear_0 : decode cX1_monthOfYear 0 = .ok (.aload_n 0, 1) := by decide +kernel
theorem dX1_monthOfYear_1 : decode cX1_monthOfYear 1 = .ok (.getfield 155, 3) := by decide +kernel
theorem dX1_monthOfYear_4 : decode cX1_monthOfYear 4 = .ok (.iload_n 1, 1) := by decide +kernel
theorem dX1_monthOfYear_5 : decode cX1_monthOfYear 5 = .ok (.iadd, 1) := by decide +kernel
theorem dX1_monthOfYear_6 : decode cX1_monthOfYear 6 = .ok (.bipush 12, 2) := by decide +kernel
theorem dX1_monthOfYear_8 : decode cX1_monthOfYear 8 = .ok (.invokestatic 205, 3) := by decide +kernel
theorem dX1_monthOfYear_11 : decode cX1_monthOfYear 11 = .ok (.ireturn, 1) := by decide +kernel
set_option maxRecDepth 20000 in
theorem ggX1_rainAhead_X1_monthOfYear : GoodIn wsX1_rainAhead wsX1_monthOfYear := goodIn_r _ [6, 7, 8, 9, 10, 11, 12, 13, 14, 15, 16, 17, 18] (by decide +kernel) (by decide +kernel)
set_option maxRecDepth 20000 in
theorem gX1_rainAhead_X1_monthOfYear : GoodIn wsX1_rainAhead (wsV RX1 210 RX1 yX1_monthOfYear wsX1_monthOfYear) := goodIn_app (goodIn_of _ (by decide +kernel)) ggX1_rainAhead_X1_monthOfYear
theorem dX1_rainAhead_0 : decode cX1_rainAhead 0 = .ok (.aload_n 0, 1) := by decide +kernel
theorem dX1_rainAhead_1 : decode cX1_rainAhead 1 = .ok (.getfield 19, 3) := by decide +kernel
theorem dX1_rainAhead_4 : decode cX1_rainAhead 4 = .ok (.aload_n 0, 1) := by decide +kernel
theorem dX1_rainAhead_5 : decode cX1_rainAhead 5 = .ok (.iload_n 1, 1) := by decide +kernel
theorem dX1_rainAhead_6 : decode cX1_rainAhead 6 = .ok (.invokevirtual 210, 3) := by decide +kernel
theorem dX1_rainAhead_9 : decode cX1_rainAhead 9 = .ok (.iaload, 1) := by decide +kernel
theorem dX1_rainAhead_10 : decode cX1_rainAhead 10 = .ok (.ireturn, 1) := by decide +kernel
set_option maxRecDepth 20000 in
theorem ggX1_stormAhead_X1_monthOfYear : GoodIn wsX1_stormAhead wsX1_monthOfYear := goodIn_r _ [6, 7, 8, 9, 10, 11, 12, 13, 14, 15, 16, 17, 18] (by decide +kernel) (by decide +kernel)
set_option maxRecDepth 20000 in
theorem gX1_stormAhead_X1_monthOfYear : GoodIn wsX1_stormAhead (wsV RX1 210 RX1 yX1_monthOfYear wsX1_monthOfYear) := goodIn_app (goodIn_of _ (by decide +kernel)) ggX1_stormAhead_X1_monthOfYear
theorem dX1_stormAhead_0 : decode cX1_stormAhead 0 = .ok (.aload_n 0, 1) := by decide +kernel
theorem dX1_stormAhead_1 : decode cX1_stormAhead 1 = .ok (.getfield 22, 3) := by decide +kernel
theorem dX1_stormAhead_4 : decode cX1_stormAhead 4 = .ok (.aload_n 0, 1) := by decide +kernel
theorem dX1_stormAhead_5 : decode cX1_stormAhead 5 = .ok (.iload_n 1, 1) := by decide +kernel
theorem dX1_stormAhead_6 : decode cX1_stormAhead 6 = .ok (.invokevirtual 210, 3) := by decide +kernel
theorem dX1_stormAhead_9 : decode cX1_stormAhead 9 = .ok (.iaload, 1) := by decide +kernel
theorem dX1_stormAhead_10 : decode cX1_stormAhead 10 = .ok (.ireturn, 1) := by decide +kernel
set_option maxRecDepth 20000 in
theorem ggX1_tally_X1_tallyOfRoofs : GoodIn wsX1_tally wsX1_tallyOfRoofs := goodIn_r _ [8, 9, 10, 11, 12, 13, 14, 15, 16, 17, 18, 19, 20, 21, 22, 23, 24, 25, 26, 27, 28, 29, 30, 31, 32, 33, 34, 35, 36, 37, 38, 39, 40, 41, 42, 43, 44, 45, 64, 65, 66, 67, 68, 69, 70, 71, 72, 73, 74, 75, 76, 77, 78, 79, 80] (by decide +kernel) (by decide +kernel)
set_option maxRecDepth 20000 in
theorem gX1_tally_X1_tallyOfRoofs : GoodIn wsX1_tally (wsV RX1 213 RX1 yX1_tallyOfRoofs wsX1_tallyOfRoofs) := goodIn_app (goodIn_of _ (by decide +kernel)) ggX1_tally_X1_tallyOfRoofs
set_option maxRecDepth 20000 in
theorem ggX1_tally_X1_rainAhead : GoodIn wsX1_tally wsX1_rainAhead := goodIn_r _ [49, 50, 51, 52, 53, 7, 54, 1, 55, 56, 57, 58, 64, 65, 66, 67, 68, 69, 70] (by decide +kernel) (by decide +kernel)
set_option maxRecDepth 20000 in
theorem gX1_tally_X1_rainAhead : GoodIn wsX1_tally (wsV RX1 146 RX1 yX1_rainAhead wsX1_rainAhead) := goodIn_app (goodIn_of _ (by decide +kernel)) ggX1_tally_X1_rainAhead
set_option maxRecDepth 20000 in
theorem ggX1_tally_X1_stormAhead : GoodIn wsX1_tally wsX1_stormAhead := goodIn_r _ [62, 63, 51, 52, 53, 7, 54, 1, 55, 56, 57, 58, 64, 65, 66, 67, 68, 69, 70] (by decide +kernel) (by decide +kernel)
set_option maxRecDepth 20000 in
theorem gX1_tally_X1_stormAhead : GoodIn wsX1_tally (wsV RX1 149 RX1 yX1_stormAhead wsX1_stormAhead) := goodIn_app (goodIn_of _ (by decide +kernel)) ggX1_tally_X1_stormAhead
theorem dX1_tally_0 : decode cX1_tally 0 = .ok (.iload_n 1, 1) := by decide +kernel
theorem dX1_tally_1 : decode cX1_tally 1 = .ok (.tableswitch 85 0 7 #[47, 52, 57, 57, 57, 66, 72, 79], 47) := by decide +kernel
theorem dX1_tally_48 : decode cX1_tally 48 = .ok (.aload_n 0, 1) := by decide +kernel
theorem dX1_tally_49 : decode cX1_tally 49 = .ok (.getfield 155, 3) := by decide +kernel
theorem dX1_tally_52 : decode cX1_tally 52 = .ok (.ireturn, 1) := by decide +kernel
theorem dX1_tally_53 : decode cX1_tally 53 = .ok (.aload_n 0, 1) := by decide +kernel
theorem dX1_tally_54 : decode cX1_tally 54 = .ok (.getfield 43, 3) := by decide +kernel
theorem dX1_tally_57 : decode cX1_tally 57 = .ok (.ireturn, 1) := by decide +kernel
theorem dX1_tally_58 : decode cX1_tally 58 = .ok (.aload_n 0, 1) := by decide +kernel
theorem dX1_tally_59 : decode cX1_tally 59 = .ok (.getfield 15, 3) := by decide +kernel
theorem dX1_tally_62 : decode cX1_tally 62 = .ok (.iload_n 1, 1) := by decide +kernel
theorem dX1_tally_63 : decode cX1_tally 63 = .ok (.iconst 2, 1) := by decide +kernel
theorem dX1_tally_64 : decode cX1_tally 64 = .ok (.isub, 1) := by decide +kernel
theorem dX1_tally_65 : decode cX1_tally 65 = .ok (.iaload, 1) := by decide +kernel
theorem dX1_tally_66 : decode cX1_tally 66 = .ok (.ireturn, 1) := by decide +kernel
theorem dX1_tally_67 : decode cX1_tally 67 = .ok (.aload_n 0, 1) := by decide +kernel
theorem dX1_tally_68 : decode cX1_tally 68 = .ok (.iconst 4, 1) := by decide +kernel
theorem dX1_tally_69 : decode cX1_tally 69 = .ok (.invokevirtual 213, 3) := by decide +kernel
theorem dX1_tally_72 : decode cX1_tally 72 = .ok (.ireturn, 1) := by decide +kernel
theorem dX1_tally_73 : decode cX1_tally 73 = .ok (.aload_n 0, 1) := by decide +kernel
theorem dX1_tally_74 : decode cX1_tally 74 = .ok (.bipush 6, 2) := by decide +kernel
theorem dX1_tally_76 : decode cX1_tally 76 = .ok (.invokevirtual 213, 3) := by decide +kernel
theorem dX1_tally_79 : decode cX1_tally 79 = .ok (.ireturn, 1) := by decide +kernel
theorem dX1_tally_80 : decode cX1_tally 80 = .ok (.aload_n 0, 1) := by decide +kernel
theorem dX1_tally_81 : decode cX1_tally 81 = .ok (.iconst 0, 1) := by decide +kernel
theorem dX1_tally_82 : decode cX1_tally 82 = .ok (.invokevirtual 146, 3) := by decide +kernel
theorem dX1_tally_85 : decode cX1_tally 85 = .ok (.ireturn, 1) := by decide +kernel
theorem dX1_tally_86 : decode cX1_tally 86 = .ok (.aload_n 0, 1) := by decide +kernel
theorem dX1_tally_87 : decode cX1_tally 87 = .ok (.iconst 0, 1) := by decide +kernel
theorem dX1_tally_88 : decode cX1_tally 88 = .ok (.invokevirtual 149, 3) := by decide +kernel
theorem dX1_tally_91 : decode cX1_tally 91 = .ok (.ireturn, 1) := by decide +kernel
set_option maxRecDepth 20000 in
theorem ggX1_tallyOfRoofs_X0_tell : GoodIn wsX1_tallyOfRoofs wsX0_tell := goodIn_r _ [6, 7, 8, 9, 10, 11, 12, 13, 14, 15, 5, 16, 17, 18, 19, 20, 21, 22, 23, 24, 25, 26, 27, 28, 29, 30, 31, 32, 33, 34, 35, 36, 37, 45, 46, 47, 48, 49, 50, 51, 52, 53, 54] (by decide +kernel) (by decide +kernel)
set_option maxRecDepth 20000 in
theorem gX1_tallyOfRoofs_X0_tell : GoodIn wsX1_tallyOfRoofs (wsV RX1 136 RX0 yX0_tell wsX0_tell) := goodIn_app (goodIn_of _ (by decide +kernel)) ggX1_tallyOfRoofs_X0_tell
theorem dX1_tallyOfRoofs_0 : decode cX1_tallyOfRoofs 0 = .ok (.iconst 0, 1) := by decide +kernel
theorem dX1_tallyOfRoofs_1 : decode cX1_tallyOfRoofs 1 = .ok (.istore_n 2, 1) := by decide +kernel
theorem dX1_tallyOfRoofs_2 : decode cX1_tallyOfRoofs 2 = .ok (.iconst 0, 1) := by decide +kernel
theorem dX1_tallyOfRoofs_3 : decode cX1_tallyOfRoofs 3 = .ok (.istore_n 3, 1) := by decide +kernel
theorem dX1_tallyOfRoofs_4 : decode cX1_tallyOfRoofs 4 = .ok (.iload_n 3, 1) := by decide +kernel
theorem dX1_tallyOfRoofs_5 : decode cX1_tallyOfRoofs 5 = .ok (.bipush 6, 2) := by decide +kernel
theorem dX1_tallyOfRoofs_7 : decode cX1_tallyOfRoofs 7 = .ok (.if_icmp .ge 31, 3) := by decide +kernel
theorem dX1_tallyOfRoofs_10 : decode cX1_tallyOfRoofs 10 = .ok (.aload_n 0, 1) := by decide +kernel
theorem dX1_tallyOfRoofs_11 : decode cX1_tallyOfRoofs 11 = .ok (.getfield 11, 3) := by decide +kernel
theorem dX1_tallyOfRoofs_14 : decode cX1_tallyOfRoofs 14 = .ok (.iload_n 3, 1) := by decide +kernel
theorem dX1_tallyOfRoofs_15 : decode cX1_tallyOfRoofs 15 = .ok (.aaload, 1) := by decide +kernel
theorem dX1_tallyOfRoofs_16 : decode cX1_tallyOfRoofs 16 = .ok (.astore 4, 2) := by decide +kernel
theorem dX1_tallyOfRoofs_18 : decode cX1_tallyOfRoofs 18 = .ok (.aload 4, 2) := by decide +kernel
theorem dX1_tallyOfRoofs_20 : decode cX1_tallyOfRoofs 20 = .ok (.ifnull 12, 3) := by decide +kernel
theorem dX1_tallyOfRoofs_23 : decode cX1_tallyOfRoofs 23 = .ok (.iload_n 2, 1) := by decide +kernel
theorem dX1_tallyOfRoofs_24 : decode cX1_tallyOfRoofs 24 = .ok (.aload 4, 2) := by decide +kernel
theorem dX1_tallyOfRoofs_26 : decode cX1_tallyOfRoofs 26 = .ok (.iload_n 1, 1) := by decide +kernel
theorem dX1_tallyOfRoofs_27 : decode cX1_tallyOfRoofs 27 = .ok (.invokevirtual 136, 3) := by decide +kernel
theorem dX1_tallyOfRoofs_30 : decode cX1_tallyOfRoofs 30 = .ok (.iadd, 1) := by decide +kernel
theorem dX1_tallyOfRoofs_31 : decode cX1_tallyOfRoofs 31 = .ok (.istore_n 2, 1) := by decide +kernel
theorem dX1_tallyOfRoofs_32 : decode cX1_tallyOfRoofs 32 = .ok (.iinc 3 1, 3) := by decide +kernel
theorem dX1_tallyOfRoofs_35 : decode cX1_tallyOfRoofs 35 = .ok (.goto (-31), 3) := by decide +kernel
theorem dX1_tallyOfRoofs_38 : decode cX1_tallyOfRoofs 38 = .ok (.iload_n 2, 1) := by decide +kernel
theorem dX1_tallyOfRoofs_39 : decode cX1_tallyOfRoofs 39 = .ok (.ireturn, 1) := by decide +kernel
set_option maxRecDepth 20000 in
theorem ggX1_lostAt_X0_becomeLike : GoodIn wsX1_lostAt wsX0_becomeLike := goodIn_r _ [6, 7, 8, 9, 10, 11, 12, 13, 14, 15, 16, 17, 18, 111, 112, 113, 114, 115, 116, 117, 118, 119, 120] (by decide +kernel) (by decide +kernel)
set_option maxRecDepth 20000 in
theorem gX1_lostAt_X0_becomeLike : GoodIn wsX1_lostAt (wsV RX1 166 RX0 yX0_becomeLike wsX0_becomeLike) := goodIn_app (goodIn_of _ (by decide +kernel)) ggX1_lostAt_X0_becomeLike
set_option maxRecDepth 20000 in
theorem ggX1_lostAt_X0_improve : GoodIn wsX1_lostAt wsX0_improve := goodIn_r _ [22, 18, 17, 23, 24, 25, 26, 16, 27, 28, 29, 5, 30, 31, 32, 33, 34, 8, 7, 35, 36, 37, 38, 111, 112, 113, 114, 115, 116, 117, 118, 119, 120] (by decide +kernel) (by decide +kernel)
set_option maxRecDepth 20000 in
theorem gX1_lostAt_X0_improve : GoodIn wsX1_lostAt (wsV RX1 114 RX0 yX0_improve wsX0_improve) := goodIn_app (goodIn_of _ (by decide +kernel)) ggX1_lostAt_X0_improve
set_option maxRecDepth 20000 in
theorem ggX1_lostAt_X1_rainAhead : GoodIn wsX1_lostAt wsX1_rainAhead := goodIn_r _ [43, 44, 45, 46, 47, 42, 48, 49, 50, 51, 52, 53, 104, 105, 106, 107, 108, 109, 110] (by decide +kernel) (by decide +kernel)
set_option maxRecDepth 20000 in
theorem gX1_lostAt_X1_rainAhead : GoodIn wsX1_lostAt (wsV RX1 146 RX1 yX1_rainAhead wsX1_rainAhead) := goodIn_app (goodIn_of _ (by decide +kernel)) ggX1_lostAt_X1_rainAhead
set_option maxRecDepth 20000 in
theorem ggX1_lostAt_X1_stormAhead : GoodIn wsX1_lostAt wsX1_stormAhead := goodIn_r _ [57, 58, 45, 46, 47, 42, 48, 49, 50, 51, 52, 53, 104, 105, 106, 107, 108, 109, 110] (by decide +kernel) (by decide +kernel)
set_option maxRecDepth 20000 in
theorem gX1_lostAt_X1_stormAhead : GoodIn wsX1_lostAt (wsV RX1 149 RX1 yX1_stormAhead wsX1_stormAhead) := goodIn_app (goodIn_of _ (by decide +kernel)) ggX1_lostAt_X1_stormAhead
set_option maxRecDepth 20000 in
theorem ggX1_lostAt_X0_liveMonthAt : GoodIn wsX1_lostAt wsX0_liveMonthAt := goodIn_r _ [62, 63, 64, 65, 66, 67, 5, 68, 8, 16, 69, 70, 25, 71, 27, 28, 29, 30, 31, 32, 33, 34, 7, 35, 36, 37, 38, 72, 73, 74, 75, 18, 9, 11, 76, 77, 78, 79, 80, 81, 82, 83, 84, 85, 86, 87, 23, 24, 26, 88, 89, 90, 91, 92, 93, 94, 95, 17, 10, 96, 97, 98, 99, 111, 112, 113, 114, 115, 116, 117, 118, 119, 120] (by decide +kernel) (by decide +kernel)
set_option maxRecDepth 20000 in
theorem gX1_lostAt_X0_liveMonthAt : GoodIn wsX1_lostAt (wsV RX1 216 RX0 yX0_liveMonthAt wsX0_liveMonthAt) := goodIn_app (goodIn_of _ (by decide +kernel)) ggX1_lostAt_X0_liveMonthAt
set_option maxRecDepth 20000 in
theorem ggX1_lostAt_X0_wearRidge : GoodIn wsX1_lostAt wsX0_wearRidge := goodIn_r _ [103, 10, 69, 70, 25, 71, 111, 112, 113, 114, 115, 116, 117, 118, 119, 120] (by decide +kernel) (by decide +kernel)
set_option maxRecDepth 20000 in
theorem gX1_lostAt_X0_wearRidge : GoodIn wsX1_lostAt (wsV RX1 219 RX0 yX0_wearRidge wsX0_wearRidge) := goodIn_app (goodIn_of _ (by decide +kernel)) ggX1_lostAt_X0_wearRidge
theorem dX1_lostAt_0 : decode cX1_lostAt 0 = .ok (.aload_n 0, 1) := by decide +kernel
theorem dX1_lostAt_1 : decode cX1_lostAt 1 = .ok (.getfield 28, 3) := by decide +kernel
theorem dX1_lostAt_4 : decode cX1_lostAt 4 = .ok (.aload_n 1, 1) := by decide +kernel
theorem dX1_lostAt_5 : decode cX1_lostAt 5 = .ok (.invokevirtual 166, 3) := by decide +kernel
theorem dX1_lostAt_8 : decode cX1_lostAt 8 = .ok (.aload_n 0, 1) := by decide +kernel
theorem dX1_lostAt_9 : decode cX1_lostAt 9 = .ok (.getfield 28, 3) := by decide +kernel
theorem dX1_lostAt_12 : decode cX1_lostAt 12 = .ok (.iload 4, 2) := by decide +kernel
theorem dX1_lostAt_14 : decode cX1_lostAt 14 = .ok (.iload_n 2, 1) := by decide +kernel
theorem dX1_lostAt_15 : decode cX1_lostAt 15 = .ok (.invokevirtual 114, 3) := by decide +kernel
theorem dX1_lostAt_18 : decode cX1_lostAt 18 = .ok (.iconst 0, 1) := by decide +kernel
theorem dX1_lostAt_19 : decode cX1_lostAt 19 = .ok (.istore 5, 2) := by decide +kernel
theorem dX1_lostAt_21 : decode cX1_lostAt 21 = .ok (.iconst 0, 1) := by decide +kernel
theorem dX1_lostAt_22 : decode cX1_lostAt 22 = .ok (.istore 6, 2) := by decide +kernel
theorem dX1_lostAt_24 : decode cX1_lostAt 24 = .ok (.iload 6, 2) := by decide +kernel
theorem dX1_lostAt_26 : decode cX1_lostAt 26 = .ok (.iload_n 3, 1) := by decide +kernel
theorem dX1_lostAt_27 : decode cX1_lostAt 27 = .ok (.if_icmp .ge 47, 3) := by decide +kernel
theorem dX1_lostAt_30 : decode cX1_lostAt 30 = .ok (.iload 5, 2) := by decide +kernel
theorem dX1_lostAt_32 : decode cX1_lostAt 32 = .ok (.aload_n 0, 1) := by decide +kernel
theorem dX1_lostAt_33 : decode cX1_lostAt 33 = .ok (.getfield 28, 3) := by decide +kernel
theorem dX1_lostAt_36 : decode cX1_lostAt 36 = .ok (.iload_n 2, 1) := by decide +kernel
theorem dX1_lostAt_37 : decode cX1_lostAt 37 = .ok (.aload_n 0, 1) := by decide +kernel
theorem dX1_lostAt_38 : decode cX1_lostAt 38 = .ok (.iload 6, 2) := by decide +kernel
theorem dX1_lostAt_40 : decode cX1_lostAt 40 = .ok (.invokevirtual 146, 3) := by decide +kernel
theorem dX1_lostAt_43 : decode cX1_lostAt 43 = .ok (.aload_n 0, 1) := by decide +kernel
theorem dX1_lostAt_44 : decode cX1_lostAt 44 = .ok (.iload 6, 2) := by decide +kernel
theorem dX1_lostAt_46 : decode cX1_lostAt 46 = .ok (.invokevirtual 149, 3) := by decide +kernel
theorem dX1_lostAt_49 : decode cX1_lostAt 49 = .ok (.invokevirtual 216, 3) := by decide +kernel
theorem dX1_lostAt_52 : decode cX1_lostAt 52 = .ok (.iadd, 1) := by decide +kernel
theorem dX1_lostAt_53 : decode cX1_lostAt 53 = .ok (.istore 5, 2) := by decide +kernel
theorem dX1_lostAt_55 : decode cX1_lostAt 55 = .ok (.aload_n 0, 1) := by decide +kernel
theorem dX1_lostAt_56 : decode cX1_lostAt 56 = .ok (.getfield 28, 3) := by decide +kernel
theorem dX1_lostAt_59 : decode cX1_lostAt 59 = .ok (.aload_n 0, 1) := by decide +kernel
theorem dX1_lostAt_60 : decode cX1_lostAt 60 = .ok (.iload 6, 2) := by decide +kernel
theorem dX1_lostAt_62 : decode cX1_lostAt 62 = .ok (.invokevirtual 149, 3) := by decide +kernel
theorem dX1_lostAt_65 : decode cX1_lostAt 65 = .ok (.invokevirtual 219, 3) := by decide +kernel
theorem dX1_lostAt_68 : decode cX1_lostAt 68 = .ok (.iinc 6 1, 3) := by decide +kernel
theorem dX1_lostAt_71 : decode cX1_lostAt 71 = .ok (.goto (-47), 3) := by decide +kernel
theorem dX1_lostAt_74 : decode cX1_lostAt 74 = .ok (.iload 5, 2) := by decide +kernel
theorem dX1_lostAt_76 : decode cX1_lostAt 76 = .ok (.ireturn, 1) := by decide +kernel
