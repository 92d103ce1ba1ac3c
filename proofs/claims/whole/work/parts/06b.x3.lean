theorem dX3_init_0 : decode cX3_init 0 = .ok (.aload_n 0, 1) := by decide +kernel
theorem dX3_init_1 : decode cX3_init 1 = .ok (.invokespecial 1, 3) := by decide +kernel
theorem dX3_init_4 : decode cX3_init 4 = .ok (.aload_n 0, 1) := by decide +kernel
theorem dX3_init_5 : decode cX3_init 5 = .ok (.bipush 6, 2) := by decide +kernel
theorem dX3_init_7 : decode cX3_init 7 = .ok (.newarray .int, 2) := by decide +kernel
theorem dX3_init_9 : decode cX3_init 9 = .ok (.putfield 9, 3) := by decide +kernel
theorem dX3_init_12 : decode cX3_init 12 = .ok (.aload_n 0, 1) := by decide +kernel
theorem dX3_init_13 : decode cX3_init 13 = .ok (.bipush 6, 2) := by decide +kernel
theorem dX3_init_15 : decode cX3_init 15 = .ok (.newarray .int, 2) := by decide +kernel
theorem dX3_init_17 : decode cX3_init 17 = .ok (.putfield 13, 3) := by decide +kernel
theorem dX3_init_20 : decode cX3_init 20 = .ok (.aload_n 0, 1) := by decide +kernel
theorem dX3_init_21 : decode cX3_init 21 = .ok (.bipush 6, 2) := by decide +kernel
theorem dX3_init_23 : decode cX3_init 23 = .ok (.newarray .int, 2) := by decide +kernel
theorem dX3_init_25 : decode cX3_init 25 = .ok (.putfield 16, 3) := by decide +kernel
theorem dX3_init_28 : decode cX3_init 28 = .ok (.aload_n 0, 1) := by decide +kernel
theorem dX3_init_29 : decode cX3_init 29 = .ok (.bipush 12, 2) := by decide +kernel
theorem dX3_init_31 : decode cX3_init 31 = .ok (.newarray .int, 2) := by decide +kernel
theorem dX3_init_33 : decode cX3_init 33 = .ok (.dup, 1) := by decide +kernel
theorem dX3_init_34 : decode cX3_init 34 = .ok (.iconst 0, 1) := by decide +kernel
theorem dX3_init_35 : decode cX3_init 35 = .ok (.iconst 4, 1) := by decide +kernel
theorem dX3_init_36 : decode cX3_init 36 = .ok (.iastore, 1) := by decide +kernel
theorem dX3_init_37 : decode cX3_init 37 = .ok (.dup, 1) := by decide +kernel
theorem dX3_init_38 : decode cX3_init 38 = .ok (.iconst 1, 1) := by decide +kernel
theorem dX3_init_39 : decode cX3_init 39 = .ok (.iconst 4, 1) := by decide +kernel
theorem dX3_init_40 : decode cX3_init 40 = .ok (.iastore, 1) := by decide +kernel
theorem dX3_init_41 : decode cX3_init 41 = .ok (.dup, 1) := by decide +kernel
theorem dX3_init_42 : decode cX3_init 42 = .ok (.iconst 2, 1) := by decide +kernel
theorem dX3_init_43 : decode cX3_init 43 = .ok (.iconst 4, 1) := by decide +kernel
theorem dX3_init_44 : decode cX3_init 44 = .ok (.iastore, 1) := by decide +kernel
theorem dX3_init_45 : decode cX3_init 45 = .ok (.dup, 1) := by decide +kernel
theorem dX3_init_46 : decode cX3_init 46 = .ok (.iconst 3, 1) := by decide +kernel
theorem dX3_init_47 : decode cX3_init 47 = .ok (.iconst 4, 1) := by decide +kernel
theorem dX3_init_48 : decode cX3_init 48 = .ok (.iastore, 1) := by decide +kernel
theorem dX3_init_49 : decode cX3_init 49 = .ok (.dup, 1) := by decide +kernel
theorem dX3_init_50 : decode cX3_init 50 = .ok (.iconst 4, 1) := by decide +kernel
theorem dX3_init_51 : decode cX3_init 51 = .ok (.iconst 4, 1) := by decide +kernel
theorem dX3_init_52 : decode cX3_init 52 = .ok (.iastore, 1) := by decide +kernel
theorem dX3_init_53 : decode cX3_init 53 = .ok (.dup, 1) := by decide +kernel
theorem dX3_init_54 : decode cX3_init 54 = .ok (.iconst 5, 1) := by decide +kernel
theorem dX3_init_55 : decode cX3_init 55 = .ok (.iconst 4, 1) := by decide +kernel
theorem dX3_init_56 : decode cX3_init 56 = .ok (.iastore, 1) := by decide +kernel
theorem dX3_init_57 : decode cX3_init 57 = .ok (.dup, 1) := by decide +kernel
theorem dX3_init_58 : decode cX3_init 58 = .ok (.bipush 6, 2) := by decide +kernel
theorem dX3_init_60 : decode cX3_init 60 = .ok (.iconst 4, 1) := by decide +kernel
theorem dX3_init_61 : decode cX3_init 61 = .ok (.iastore, 1) := by decide +kernel
theorem dX3_init_62 : decode cX3_init 62 = .ok (.dup, 1) := by decide +kernel
theorem dX3_init_63 : decode cX3_init 63 = .ok (.bipush 7, 2) := by decide +kernel
theorem dX3_init_65 : decode cX3_init 65 = .ok (.iconst 4, 1) := by decide +kernel
theorem dX3_init_66 : decode cX3_init 66 = .ok (.iastore, 1) := by decide +kernel
theorem dX3_init_67 : decode cX3_init 67 = .ok (.dup, 1) := by decide +kernel
theorem dX3_init_68 : decode cX3_init 68 = .ok (.bipush 8, 2) := by decide +kernel
theorem dX3_init_70 : decode cX3_init 70 = .ok (.iconst 4, 1) := by decide +kernel
theorem dX3_init_71 : decode cX3_init 71 = .ok (.iastore, 1) := by decide +kernel
theorem dX3_init_72 : decode cX3_init 72 = .ok (.dup, 1) := by decide +kernel
theorem dX3_init_73 : decode cX3_init 73 = .ok (.bipush 9, 2) := by decide +kernel
theorem dX3_init_75 : decode cX3_init 75 = .ok (.iconst 4, 1) := by decide +kernel
theorem dX3_init_76 : decode cX3_init 76 = .ok (.iastore, 1) := by decide +kernel
theorem dX3_init_77 : decode cX3_init 77 = .ok (.dup, 1) := by decide +kernel
theorem dX3_init_78 : decode cX3_init 78 = .ok (.bipush 10, 2) := by decide +kernel
theorem dX3_init_80 : decode cX3_init 80 = .ok (.iconst 4, 1) := by decide +kernel
theorem dX3_init_81 : decode cX3_init 81 = .ok (.iastore, 1) := by decide +kernel
theorem dX3_init_82 : decode cX3_init 82 = .ok (.dup, 1) := by decide +kernel
theorem dX3_init_83 : decode cX3_init 83 = .ok (.bipush 11, 2) := by decide +kernel
theorem dX3_init_85 : decode cX3_init 85 = .ok (.iconst 4, 1) := by decide +kernel
theorem dX3_init_86 : decode cX3_init 86 = .ok (.iastore, 1) := by decide +kernel
theorem dX3_init_87 : decode cX3_init 87 = .ok (.putfield 19, 3) := by decide +kernel
theorem dX3_init_90 : decode cX3_init 90 = .ok (.aload_n 0, 1) := by decide +kernel
theorem dX3_init_91 : decode cX3_init 91 = .ok (.bipush 12, 2) := by decide +kernel
theorem dX3_init_93 : decode cX3_init 93 = .ok (.newarray .int, 2) := by decide +kernel
theorem dX3_init_95 : decode cX3_init 95 = .ok (.putfield 22, 3) := by decide +kernel
theorem dX3_init_98 : decode cX3_init 98 = .ok (.aload_n 0, 1) := by decide +kernel
theorem dX3_init_99 : decode cX3_init 99 = .ok (.iconst 3, 1) := by decide +kernel
theorem dX3_init_100 : decode cX3_init 100 = .ok (.newarray .int, 2) := by decide +kernel
theorem dX3_init_102 : decode cX3_init 102 = .ok (.putfield 25, 3) := by decide +kernel
theorem dX3_init_105 : decode cX3_init 105 = .ok (.aload_n 0, 1) := by decide +kernel
theorem dX3_init_106 : decode cX3_init 106 = .ok (.new 28, 3) := by decide +kernel
theorem dX3_init_109 : decode cX3_init 109 = .ok (.dup, 1) := by decide +kernel
theorem dX3_init_110 : decode cX3_init 110 = .ok (.aload_n 0, 1) := by decide +kernel
theorem dX3_init_111 : decode cX3_init 111 = .ok (.invokespecial 30, 3) := by decide +kernel
theorem dX3_init_114 : decode cX3_init 114 = .ok (.putfield 33, 3) := by decide +kernel
theorem dX3_init_117 : decode cX3_init 117 = .ok (.aload_n 0, 1) := by decide +kernel
theorem dX3_init_118 : decode cX3_init 118 = .ok (.new 28, 3) := by decide +kernel
theorem dX3_init_121 : decode cX3_init 121 = .ok (.dup, 1) := by decide +kernel
theorem dX3_init_122 : decode cX3_init 122 = .ok (.aload_n 0, 1) := by decide +kernel
theorem dX3_init_123 : decode cX3_init 123 = .ok (.invokespecial 30, 3) := by decide +kernel
theorem dX3_init_126 : decode cX3_init 126 = .ok (.putfield 37, 3) := by decide +kernel
theorem dX3_init_129 : decode cX3_init 129 = .ok (.return_, 1) := by decide +kernel
theorem dX3_thrown_0 : decode cX3_thrown 0 = .ok (.aload_n 0, 1) := by decide +kernel
theorem dX3_thrown_1 : decode cX3_thrown 1 = .ok (.getfield 40, 3) := by decide +kernel
theorem dX3_thrown_4 : decode cX3_thrown 4 = .ok (.ireturn, 1) := by decide +kernel
theorem dX3_no_0 : decode cX3_no 0 = .ok (.aload_n 0, 1) := by decide +kernel
theorem dX3_no_1 : decode cX3_no 1 = .ok (.iload_n 1, 1) := by decide +kernel
theorem dX3_no_2 : decode cX3_no 2 = .ok (.putfield 40, 3) := by decide +kernel
theorem dX3_no_5 : decode cX3_no 5 = .ok (.iconst 0, 1) := by decide +kernel
theorem dX3_no_6 : decode cX3_no 6 = .ok (.ireturn, 1) := by decide +kernel
theorem dX3_isIn_0 : decode cX3_isIn 0 = .ok (.iload_n 0, 1) := by decide +kernel
theorem dX3_isIn_1 : decode cX3_isIn 1 = .ok (.iload_n 1, 1) := by decide +kernel
theorem dX3_isIn_2 : decode cX3_isIn 2 = .ok (.if_icmp .lt 12, 3) := by decide +kernel
theorem dX3_isIn_5 : decode cX3_isIn 5 = .ok (.iload_n 0, 1) := by decide +kernel
theorem dX3_isIn_6 : decode cX3_isIn 6 = .ok (.iload_n 2, 1) := by decide +kernel
theorem dX3_isIn_7 : decode cX3_isIn 7 = .ok (.if_icmp .gt 7, 3) := by decide +kernel
theorem dX3_isIn_10 : decode cX3_isIn 10 = .ok (.iconst 1, 1) := by decide +kernel
theorem dX3_isIn_11 : decode cX3_isIn 11 = .ok (.goto 4, 3) := by decide +kernel
theorem dX3_isIn_14 : decode cX3_isIn 14 = .ok (.iconst 0, 1) := by decide +kernel
theorem dX3_isIn_15 : decode cX3_isIn 15 = .ok (.ireturn, 1) := by decide +kernel
theorem dX3_cell_0 : decode cX3_cell 0 = .ok (.bipush 60, 2) := by decide +kernel
theorem dX3_cell_2 : decode cX3_cell 2 = .ok (.iload_n 0, 1) := by decide +kernel
theorem dX3_cell_3 : decode cX3_cell 3 = .ok (.imul, 1) := by decide +kernel
theorem dX3_cell_4 : decode cX3_cell 4 = .ok (.bipush 10, 2) := by decide +kernel
theorem dX3_cell_6 : decode cX3_cell 6 = .ok (.iload_n 1, 1) := by decide +kernel
theorem dX3_cell_7 : decode cX3_cell 7 = .ok (.imul, 1) := by decide +kernel
theorem dX3_cell_8 : decode cX3_cell 8 = .ok (.iadd, 1) := by decide +kernel
theorem dX3_cell_9 : decode cX3_cell 9 = .ok (.iload_n 2, 1) := by decide +kernel
theorem dX3_cell_10 : decode cX3_cell 10 = .ok (.iadd, 1) := by decide +kernel
theorem dX3_cell_11 : decode cX3_cell 11 = .ok (.ireturn, 1) := by decide +kernel
set_option maxRecDepth 20000 in
theorem ggX3_isRoof_X3_isIn : GoodIn wsX3_isRoof wsX3_isIn := goodIn_r _ [5] (by decide +kernel) (by decide +kernel)
set_option maxRecDepth 20000 in
theorem gX3_isRoof_X3_isIn : GoodIn wsX3_isRoof (va_wsS RX3 47 yX3_isIn wsX3_isIn) := goodIn_app (goodIn_of _ (by decide +kernel)) ggX3_isRoof_X3_isIn
theorem dX3_isRoof_0 : decode cX3_isRoof 0 = .ok (.iload_n 1, 1) := by decide +kernel
theorem dX3_isRoof_1 : decode cX3_isRoof 1 = .ok (.iconst 0, 1) := by decide +kernel
theorem dX3_isRoof_2 : decode cX3_isRoof 2 = .ok (.aload_n 0, 1) := by decide +kernel
theorem dX3_isRoof_3 : decode cX3_isRoof 3 = .ok (.getfield 44, 3) := by decide +kernel
theorem dX3_isRoof_6 : decode cX3_isRoof 6 = .ok (.iconst 1, 1) := by decide +kernel
theorem dX3_isRoof_7 : decode cX3_isRoof 7 = .ok (.isub, 1) := by decide +kernel
theorem dX3_isRoof_8 : decode cX3_isRoof 8 = .ok (.invokestatic 47, 3) := by decide +kernel
theorem dX3_isRoof_11 : decode cX3_isRoof 11 = .ok (.ireturn, 1) := by decide +kernel
set_option maxRecDepth 20000 in
theorem ggX3_isCourse_X3_isRoof : GoodIn wsX3_isCourse wsX3_isRoof := goodIn_r _ [6, 7, 8, 9, 5, 10, 11, 12, 13, 14, 15, 16, 17, 18, 19, 20] (by decide +kernel) (by decide +kernel)
set_option maxRecDepth 20000 in
theorem gX3_isCourse_X3_isRoof : GoodIn wsX3_isCourse (wsV RX3 51 RX3 yX3_isRoof wsX3_isRoof) := goodIn_app (goodIn_of _ (by decide +kernel)) ggX3_isCourse_X3_isRoof
set_option maxRecDepth 20000 in
theorem ggX3_isCourse_X3_isIn : GoodIn wsX3_isCourse wsX3_isIn := goodIn_r _ [10] (by decide +kernel) (by decide +kernel)
set_option maxRecDepth 20000 in
theorem gX3_isCourse_X3_isIn : GoodIn wsX3_isCourse (va_wsS RX3 47 yX3_isIn wsX3_isIn) := goodIn_app (goodIn_of _ (by decide +kernel)) ggX3_isCourse_X3_isIn
theorem dX3_isCourse_0 : decode cX3_isCourse 0 = .ok (.aload_n 0, 1) := by decide +kernel
theorem dX3_isCourse_1 : decode cX3_isCourse 1 = .ok (.iload_n 1, 1) := by decide +kernel
theorem dX3_isCourse_2 : decode cX3_isCourse 2 = .ok (.invokevirtual 51, 3) := by decide +kernel
theorem dX3_isCourse_5 : decode cX3_isCourse 5 = .ok (.ifCond .eq 23, 3) := by decide +kernel
theorem dX3_isCourse_8 : decode cX3_isCourse 8 = .ok (.iload_n 2, 1) := by decide +kernel
theorem dX3_isCourse_9 : decode cX3_isCourse 9 = .ok (.iconst 0, 1) := by decide +kernel
theorem dX3_isCourse_10 : decode cX3_isCourse 10 = .ok (.aload_n 0, 1) := by decide +kernel
theorem dX3_isCourse_11 : decode cX3_isCourse 11 = .ok (.getfield 13, 3) := by decide +kernel
theorem dX3_isCourse_14 : decode cX3_isCourse 14 = .ok (.iload_n 1, 1) := by decide +kernel
theorem dX3_isCourse_15 : decode cX3_isCourse 15 = .ok (.iaload, 1) := by decide +kernel
theorem dX3_isCourse_16 : decode cX3_isCourse 16 = .ok (.iconst 1, 1) := by decide +kernel
theorem dX3_isCourse_17 : decode cX3_isCourse 17 = .ok (.isub, 1) := by decide +kernel
theorem dX3_isCourse_18 : decode cX3_isCourse 18 = .ok (.invokestatic 47, 3) := by decide +kernel
theorem dX3_isCourse_21 : decode cX3_isCourse 21 = .ok (.ifCond .eq 7, 3) := by decide +kernel
theorem dX3_isCourse_24 : decode cX3_isCourse 24 = .ok (.iconst 1, 1) := by decide +kernel
theorem dX3_isCourse_25 : decode cX3_isCourse 25 = .ok (.goto 4, 3) := by decide +kernel
theorem dX3_isCourse_28 : decode cX3_isCourse 28 = .ok (.iconst 0, 1) := by decide +kernel
theorem dX3_isCourse_29 : decode cX3_isCourse 29 = .ok (.ireturn, 1) := by decide +kernel
set_option maxRecDepth 20000 in
theorem ggX3_isPlace_X3_isCourse : GoodIn wsX3_isPlace wsX3_isCourse := goodIn_r _ [6, 7, 8, 9, 10, 5, 11, 12, 13, 14, 15, 16, 17, 18, 19, 20, 21, 22, 23, 24, 25] (by decide +kernel) (by decide +kernel)
set_option maxRecDepth 20000 in
theorem gX3_isPlace_X3_isCourse : GoodIn wsX3_isPlace (wsV RX3 55 RX3 yX3_isCourse wsX3_isCourse) := goodIn_app (goodIn_of _ (by decide +kernel)) ggX3_isPlace_X3_isCourse
set_option maxRecDepth 20000 in
theorem ggX3_isPlace_X3_isIn : GoodIn wsX3_isPlace wsX3_isIn := goodIn_r _ [15] (by decide +kernel) (by decide +kernel)
set_option maxRecDepth 20000 in
theorem gX3_isPlace_X3_isIn : GoodIn wsX3_isPlace (va_wsS RX3 47 yX3_isIn wsX3_isIn) := goodIn_app (goodIn_of _ (by decide +kernel)) ggX3_isPlace_X3_isIn
theorem dX3_isPlace_0 : decode cX3_isPlace 0 = .ok (.aload_n 0, 1) := by decide +kernel
theorem dX3_isPlace_1 : decode cX3_isPlace 1 = .ok (.iload_n 1, 1) := by decide +kernel
theorem dX3_isPlace_2 : decode cX3_isPlace 2 = .ok (.iload_n 2, 1) := by decide +kernel
theorem dX3_isPlace_3 : decode cX3_isPlace 3 = .ok (.invokevirtual 55, 3) := by decide +kernel
theorem dX3_isPlace_6 : decode cX3_isPlace 6 = .ok (.ifCond .eq 23, 3) := by decide +kernel
theorem dX3_isPlace_9 : decode cX3_isPlace 9 = .ok (.iload_n 3, 1) := by decide +kernel
theorem dX3_isPlace_10 : decode cX3_isPlace 10 = .ok (.iconst 0, 1) := by decide +kernel
theorem dX3_isPlace_11 : decode cX3_isPlace 11 = .ok (.aload_n 0, 1) := by decide +kernel
theorem dX3_isPlace_12 : decode cX3_isPlace 12 = .ok (.getfield 9, 3) := by decide +kernel
theorem dX3_isPlace_15 : decode cX3_isPlace 15 = .ok (.iload_n 1, 1) := by decide +kernel
theorem dX3_isPlace_16 : decode cX3_isPlace 16 = .ok (.iaload, 1) := by decide +kernel
theorem dX3_isPlace_17 : decode cX3_isPlace 17 = .ok (.iconst 1, 1) := by decide +kernel
theorem dX3_isPlace_18 : decode cX3_isPlace 18 = .ok (.isub, 1) := by decide +kernel
theorem dX3_isPlace_19 : decode cX3_isPlace 19 = .ok (.invokestatic 47, 3) := by decide +kernel
theorem dX3_isPlace_22 : decode cX3_isPlace 22 = .ok (.ifCond .eq 7, 3) := by decide +kernel
theorem dX3_isPlace_25 : decode cX3_isPlace 25 = .ok (.iconst 1, 1) := by decide +kernel
theorem dX3_isPlace_26 : decode cX3_isPlace 26 = .ok (.goto 4, 3) := by decide +kernel
theorem dX3_isPlace_29 : decode cX3_isPlace 29 = .ok (.iconst 0, 1) := by decide +kernel
theorem dX3_isPlace_30 : decode cX3_isPlace 30 = .ok (.ireturn, 1) := by decide +kernel
set_option maxRecDepth 20000 in
theorem ggX3_build_X3_isIn : GoodIn wsX3_build wsX3_isIn := goodIn_r _ [10] (by decide +kernel) (by decide +kernel)
set_option maxRecDepth 20000 in
theorem gX3_build_X3_isIn : GoodIn wsX3_build (va_wsS RX3 47 yX3_isIn wsX3_isIn) := goodIn_app (goodIn_of _ (by decide +kernel)) ggX3_build_X3_isIn
set_option maxRecDepth 20000 in
theorem ggX3_build_X3_no : GoodIn wsX3_build wsX3_no := goodIn_r _ [14, 1, 15, 16, 17, 18, 19, 20, 21, 22, 23, 24] (by decide +kernel) (by decide +kernel)
set_option maxRecDepth 20000 in
theorem gX3_build_X3_no : GoodIn wsX3_build (wsV RX3 59 RX3 yX3_no wsX3_no) := goodIn_app (goodIn_of _ (by decide +kernel)) ggX3_build_X3_no
theorem dX3_build_0 : decode cX3_build 0 = .ok (.aload_n 0, 1) := by decide +kernel
theorem dX3_build_1 : decode cX3_build 1 = .ok (.iconst 0, 1) := by decide +kernel
theorem dX3_build_2 : decode cX3_build 2 = .ok (.putfield 40, 3) := by decide +kernel
theorem dX3_build_5 : decode cX3_build 5 = .ok (.iload_n 1, 1) := by decide +kernel
theorem dX3_build_6 : decode cX3_build 6 = .ok (.iconst 2, 1) := by decide +kernel
theorem dX3_build_7 : decode cX3_build 7 = .ok (.bipush 10, 2) := by decide +kernel
theorem dX3_build_9 : decode cX3_build 9 = .ok (.invokestatic 47, 3) := by decide +kernel
theorem dX3_build_12 : decode cX3_build 12 = .ok (.ifCond .eq 24, 3) := by decide +kernel
theorem dX3_build_15 : decode cX3_build 15 = .ok (.iload_n 2, 1) := by decide +kernel
theorem dX3_build_16 : decode cX3_build 16 = .ok (.iconst 2, 1) := by decide +kernel
theorem dX3_build_17 : decode cX3_build 17 = .ok (.bipush 6, 2) := by decide +kernel
theorem dX3_build_19 : decode cX3_build 19 = .ok (.invokestatic 47, 3) := by decide +kernel
theorem dX3_build_22 : decode cX3_build 22 = .ok (.ifCond .eq 14, 3) := by decide +kernel
theorem dX3_build_25 : decode cX3_build 25 = .ok (.iload_n 3, 1) := by decide +kernel
theorem dX3_build_26 : decode cX3_build 26 = .ok (.bipush 30, 2) := by decide +kernel
theorem dX3_build_28 : decode cX3_build 28 = .ok (.bipush 60, 2) := by decide +kernel
theorem dX3_build_30 : decode cX3_build 30 = .ok (.invokestatic 47, 3) := by decide +kernel
theorem dX3_build_33 : decode cX3_build 33 = .ok (.ifCond .ne 9, 3) := by decide +kernel
theorem dX3_build_36 : decode cX3_build 36 = .ok (.aload_n 0, 1) := by decide +kernel
theorem dX3_build_37 : decode cX3_build 37 = .ok (.iconst 1, 1) := by decide +kernel
theorem dX3_build_38 : decode cX3_build 38 = .ok (.invokevirtual 59, 3) := by decide +kernel
theorem dX3_build_41 : decode cX3_build 41 = .ok (.ireturn, 1) := by decide +kernel
theorem dX3_build_42 : decode cX3_build 42 = .ok (.aload_n 0, 1) := by decide +kernel
theorem dX3_build_43 : decode cX3_build 43 = .ok (.getfield 44, 3) := by decide +kernel
theorem dX3_build_46 : decode cX3_build 46 = .ok (.bipush 6, 2) := by decide +kernel
theorem dX3_build_48 : decode cX3_build 48 = .ok (.if_icmp .ne 9, 3) := by decide +kernel
theorem dX3_build_51 : decode cX3_build 51 = .ok (.aload_n 0, 1) := by decide +kernel
theorem dX3_build_52 : decode cX3_build 52 = .ok (.iconst 2, 1) := by decide +kernel
theorem dX3_build_53 : decode cX3_build 53 = .ok (.invokevirtual 59, 3) := by decide +kernel
theorem dX3_build_56 : decode cX3_build 56 = .ok (.ireturn, 1) := by decide +kernel
theorem dX3_build_57 : decode cX3_build 57 = .ok (.aload_n 0, 1) := by decide +kernel
theorem dX3_build_58 : decode cX3_build 58 = .ok (.getfield 9, 3) := by decide +kernel
theorem dX3_build_61 : decode cX3_build 61 = .ok (.aload_n 0, 1) := by decide +kernel
theorem dX3_build_62 : decode cX3_build 62 = .ok (.getfield 44, 3) := by decide +kernel
theorem dX3_build_65 : decode cX3_build 65 = .ok (.iload_n 1, 1) := by decide +kernel
theorem dX3_build_66 : decode cX3_build 66 = .ok (.iastore, 1) := by decide +kernel
theorem dX3_build_67 : decode cX3_build 67 = .ok (.aload_n 0, 1) := by decide +kernel
theorem dX3_build_68 : decode cX3_build 68 = .ok (.getfield 13, 3) := by decide +kernel
theorem dX3_build_71 : decode cX3_build 71 = .ok (.aload_n 0, 1) := by decide +kernel
theorem dX3_build_72 : decode cX3_build 72 = .ok (.getfield 44, 3) := by decide +kernel
theorem dX3_build_75 : decode cX3_build 75 = .ok (.iload_n 2, 1) := by decide +kernel
theorem dX3_build_76 : decode cX3_build 76 = .ok (.iastore, 1) := by decide +kernel
theorem dX3_build_77 : decode cX3_build 77 = .ok (.aload_n 0, 1) := by decide +kernel
theorem dX3_build_78 : decode cX3_build 78 = .ok (.getfield 16, 3) := by decide +kernel
theorem dX3_build_81 : decode cX3_build 81 = .ok (.aload_n 0, 1) := by decide +kernel
theorem dX3_build_82 : decode cX3_build 82 = .ok (.getfield 44, 3) := by decide +kernel
theorem dX3_build_85 : decode cX3_build 85 = .ok (.iload_n 3, 1) := by decide +kernel
theorem dX3_build_86 : decode cX3_build 86 = .ok (.iastore, 1) := by decide +kernel
theorem dX3_build_87 : decode cX3_build 87 = .ok (.aload_n 0, 1) := by decide +kernel
theorem dX3_build_88 : decode cX3_build 88 = .ok (.getfield 33, 3) := by decide +kernel
theorem dX3_build_91 : decode cX3_build 91 = .ok (.getfield 63, 3) := by decide +kernel
theorem dX3_build_94 : decode cX3_build 94 = .ok (.aload_n 0, 1) := by decide +kernel
theorem dX3_build_95 : decode cX3_build 95 = .ok (.getfield 44, 3) := by decide +kernel
theorem dX3_build_98 : decode cX3_build 98 = .ok (.bipush 100, 2) := by decide +kernel
theorem dX3_build_100 : decode cX3_build 100 = .ok (.iastore, 1) := by decide +kernel
theorem dX3_build_101 : decode cX3_build 101 = .ok (.aload_n 0, 1) := by decide +kernel
theorem dX3_build_102 : decode cX3_build 102 = .ok (.dup, 1) := by decide +kernel
theorem dX3_build_103 : decode cX3_build 103 = .ok (.getfield 44, 3) := by decide +kernel
theorem dX3_build_106 : decode cX3_build 106 = .ok (.iconst 1, 1) := by decide +kernel
theorem dX3_build_107 : decode cX3_build 107 = .ok (.iadd, 1) := by decide +kernel
theorem dX3_build_108 : decode cX3_build 108 = .ok (.putfield 44, 3) := by decide +kernel
theorem dX3_build_111 : decode cX3_build 111 = .ok (.aload_n 0, 1) := by decide +kernel
theorem dX3_build_112 : decode cX3_build 112 = .ok (.getfield 44, 3) := by decide +kernel
theorem dX3_build_115 : decode cX3_build 115 = .ok (.iconst 1, 1) := by decide +kernel
theorem dX3_build_116 : decode cX3_build 116 = .ok (.isub, 1) := by decide +kernel
theorem dX3_build_117 : decode cX3_build 117 = .ok (.ireturn, 1) := by decide +kernel
set_option maxRecDepth 20000 in
theorem ggX3_bring_X3_isIn : GoodIn wsX3_bring wsX3_isIn := goodIn_r _ [6] (by decide +kernel) (by decide +kernel)
set_option maxRecDepth 20000 in
theorem gX3_bring_X3_isIn : GoodIn wsX3_bring (va_wsS RX3 47 yX3_isIn wsX3_isIn) := goodIn_app (goodIn_of _ (by decide +kernel)) ggX3_bring_X3_isIn
set_option maxRecDepth 20000 in
theorem ggX3_bring_X3_no : GoodIn wsX3_bring wsX3_no := goodIn_r _ [10, 1, 11, 12, 13, 14, 15, 16, 17, 18, 19, 20] (by decide +kernel) (by decide +kernel)
set_option maxRecDepth 20000 in
theorem gX3_bring_X3_no : GoodIn wsX3_bring (wsV RX3 59 RX3 yX3_no wsX3_no) := goodIn_app (goodIn_of _ (by decide +kernel)) ggX3_bring_X3_no
theorem dX3_bring_0 : decode cX3_bring 0 = .ok (.aload_n 0, 1) := by decide +kernel
theorem dX3_bring_1 : decode cX3_bring 1 = .ok (.iconst 0, 1) := by decide +kernel
theorem dX3_bring_2 : decode cX3_bring 2 = .ok (.putfield 40, 3) := by decide +kernel
theorem dX3_bring_5 : decode cX3_bring 5 = .ok (.iload_n 1, 1) := by decide +kernel
theorem dX3_bring_6 : decode cX3_bring 6 = .ok (.iconst 0, 1) := by decide +kernel
theorem dX3_bring_7 : decode cX3_bring 7 = .ok (.iconst 2, 1) := by decide +kernel
theorem dX3_bring_8 : decode cX3_bring 8 = .ok (.invokestatic 47, 3) := by decide +kernel
theorem dX3_bring_11 : decode cX3_bring 11 = .ok (.ifCond .ne 9, 3) := by decide +kernel
theorem dX3_bring_14 : decode cX3_bring 14 = .ok (.aload_n 0, 1) := by decide +kernel
theorem dX3_bring_15 : decode cX3_bring 15 = .ok (.iconst 1, 1) := by decide +kernel
theorem dX3_bring_16 : decode cX3_bring 16 = .ok (.invokevirtual 59, 3) := by decide +kernel
theorem dX3_bring_19 : decode cX3_bring 19 = .ok (.ireturn, 1) := by decide +kernel
theorem dX3_bring_20 : decode cX3_bring 20 = .ok (.iload_n 2, 1) := by decide +kernel
theorem dX3_bring_21 : decode cX3_bring 21 = .ok (.iconst 1, 1) := by decide +kernel
theorem dX3_bring_22 : decode cX3_bring 22 = .ok (.sipush 500, 3) := by decide +kernel
theorem dX3_bring_25 : decode cX3_bring 25 = .ok (.invokestatic 47, 3) := by decide +kernel
theorem dX3_bring_28 : decode cX3_bring 28 = .ok (.ifCond .ne 9, 3) := by decide +kernel
theorem dX3_bring_31 : decode cX3_bring 31 = .ok (.aload_n 0, 1) := by decide +kernel
theorem dX3_bring_32 : decode cX3_bring 32 = .ok (.iconst 2, 1) := by decide +kernel
theorem dX3_bring_33 : decode cX3_bring 33 = .ok (.invokevirtual 59, 3) := by decide +kernel
theorem dX3_bring_36 : decode cX3_bring 36 = .ok (.ireturn, 1) := by decide +kernel
theorem dX3_bring_37 : decode cX3_bring 37 = .ok (.aload_n 0, 1) := by decide +kernel
theorem dX3_bring_38 : decode cX3_bring 38 = .ok (.getfield 25, 3) := by decide +kernel
theorem dX3_bring_41 : decode cX3_bring 41 = .ok (.iload_n 1, 1) := by decide +kernel
theorem dX3_bring_42 : decode cX3_bring 42 = .ok (.iaload, 1) := by decide +kernel
theorem dX3_bring_43 : decode cX3_bring 43 = .ok (.iload_n 2, 1) := by decide +kernel
theorem dX3_bring_44 : decode cX3_bring 44 = .ok (.iadd, 1) := by decide +kernel
theorem dX3_bring_45 : decode cX3_bring 45 = .ok (.sipush 500, 3) := by decide +kernel
theorem dX3_bring_48 : decode cX3_bring 48 = .ok (.if_icmp .le 9, 3) := by decide +kernel
theorem dX3_bring_51 : decode cX3_bring 51 = .ok (.aload_n 0, 1) := by decide +kernel
theorem dX3_bring_52 : decode cX3_bring 52 = .ok (.iconst 3, 1) := by decide +kernel
theorem dX3_bring_53 : decode cX3_bring 53 = .ok (.invokevirtual 59, 3) := by decide +kernel
theorem dX3_bring_56 : decode cX3_bring 56 = .ok (.ireturn, 1) := by decide +kernel
theorem dX3_bring_57 : decode cX3_bring 57 = .ok (.aload_n 0, 1) := by decide +kernel
theorem dX3_bring_58 : decode cX3_bring 58 = .ok (.getfield 25, 3) := by decide +kernel
theorem dX3_bring_61 : decode cX3_bring 61 = .ok (.iload_n 1, 1) := by decide +kernel
theorem dX3_bring_62 : decode cX3_bring 62 = .ok (.dup2, 1) := by decide +kernel
theorem dX3_bring_63 : decode cX3_bring 63 = .ok (.iaload, 1) := by decide +kernel
theorem dX3_bring_64 : decode cX3_bring 64 = .ok (.iload_n 2, 1) := by decide +kernel
theorem dX3_bring_65 : decode cX3_bring 65 = .ok (.iadd, 1) := by decide +kernel
theorem dX3_bring_66 : decode cX3_bring 66 = .ok (.iastore, 1) := by decide +kernel
theorem dX3_bring_67 : decode cX3_bring 67 = .ok (.aload_n 0, 1) := by decide +kernel
theorem dX3_bring_68 : decode cX3_bring 68 = .ok (.getfield 25, 3) := by decide +kernel
theorem dX3_bring_71 : decode cX3_bring 71 = .ok (.iload_n 1, 1) := by decide +kernel
theorem dX3_bring_72 : decode cX3_bring 72 = .ok (.iaload, 1) := by decide +kernel
theorem dX3_bring_73 : decode cX3_bring 73 = .ok (.ireturn, 1) := by decide +kernel
set_option maxRecDepth 20000 in
theorem ggX3_setWeather_X3_isIn : GoodIn wsX3_setWeather wsX3_isIn := goodIn_r _ [7] (by decide +kernel) (by decide +kernel)
set_option maxRecDepth 20000 in
theorem gX3_setWeather_X3_isIn : GoodIn wsX3_setWeather (va_wsS RX3 47 yX3_isIn wsX3_isIn) := goodIn_app (goodIn_of _ (by decide +kernel)) ggX3_setWeather_X3_isIn
set_option maxRecDepth 20000 in
theorem ggX3_setWeather_X3_no : GoodIn wsX3_setWeather wsX3_no := goodIn_r _ [11, 1, 12, 13, 14, 15, 16, 17, 18, 19, 20, 21] (by decide +kernel) (by decide +kernel)
set_option maxRecDepth 20000 in
theorem gX3_setWeather_X3_no : GoodIn wsX3_setWeather (wsV RX3 59 RX3 yX3_no wsX3_no) := goodIn_app (goodIn_of _ (by decide +kernel)) ggX3_setWeather_X3_no
theorem dX3_setWeather_0 : decode cX3_setWeather 0 = .ok (.aload_n 0, 1) := by decide +kernel
theorem dX3_setWeather_1 : decode cX3_setWeather 1 = .ok (.iconst 0, 1) := by decide +kernel
theorem dX3_setWeather_2 : decode cX3_setWeather 2 = .ok (.putfield 40, 3) := by decide +kernel
theorem dX3_setWeather_5 : decode cX3_setWeather 5 = .ok (.iload_n 1, 1) := by decide +kernel
theorem dX3_setWeather_6 : decode cX3_setWeather 6 = .ok (.iconst 0, 1) := by decide +kernel
theorem dX3_setWeather_7 : decode cX3_setWeather 7 = .ok (.bipush 11, 2) := by decide +kernel
theorem dX3_setWeather_9 : decode cX3_setWeather 9 = .ok (.invokestatic 47, 3) := by decide +kernel
theorem dX3_setWeather_12 : decode cX3_setWeather 12 = .ok (.ifCond .ne 9, 3) := by decide +kernel
theorem dX3_setWeather_15 : decode cX3_setWeather 15 = .ok (.aload_n 0, 1) := by decide +kernel
theorem dX3_setWeather_16 : decode cX3_setWeather 16 = .ok (.iconst 1, 1) := by decide +kernel
theorem dX3_setWeather_17 : decode cX3_setWeather 17 = .ok (.invokevirtual 59, 3) := by decide +kernel
theorem dX3_setWeather_20 : decode cX3_setWeather 20 = .ok (.ireturn, 1) := by decide +kernel
theorem dX3_setWeather_21 : decode cX3_setWeather 21 = .ok (.iload_n 2, 1) := by decide +kernel
theorem dX3_setWeather_22 : decode cX3_setWeather 22 = .ok (.iconst 0, 1) := by decide +kernel
theorem dX3_setWeather_23 : decode cX3_setWeather 23 = .ok (.bipush 9, 2) := by decide +kernel
theorem dX3_setWeather_25 : decode cX3_setWeather 25 = .ok (.invokestatic 47, 3) := by decide +kernel
theorem dX3_setWeather_28 : decode cX3_setWeather 28 = .ok (.ifCond .eq 13, 3) := by decide +kernel
theorem dX3_setWeather_31 : decode cX3_setWeather 31 = .ok (.iload_n 3, 1) := by decide +kernel
theorem dX3_setWeather_32 : decode cX3_setWeather 32 = .ok (.iconst 0, 1) := by decide +kernel
theorem dX3_setWeather_33 : decode cX3_setWeather 33 = .ok (.bipush 9, 2) := by decide +kernel
theorem dX3_setWeather_35 : decode cX3_setWeather 35 = .ok (.invokestatic 47, 3) := by decide +kernel
theorem dX3_setWeather_38 : decode cX3_setWeather 38 = .ok (.ifCond .ne 9, 3) := by decide +kernel
theorem dX3_setWeather_41 : decode cX3_setWeather 41 = .ok (.aload_n 0, 1) := by decide +kernel
theorem dX3_setWeather_42 : decode cX3_setWeather 42 = .ok (.iconst 2, 1) := by decide +kernel
theorem dX3_setWeather_43 : decode cX3_setWeather 43 = .ok (.invokevirtual 59, 3) := by decide +kernel
theorem dX3_setWeather_46 : decode cX3_setWeather 46 = .ok (.ireturn, 1) := by decide +kernel
theorem dX3_setWeather_47 : decode cX3_setWeather 47 = .ok (.bipush 10, 2) := by decide +kernel
theorem dX3_setWeather_49 : decode cX3_setWeather 49 = .ok (.aload_n 0, 1) := by decide +kernel
theorem dX3_setWeather_50 : decode cX3_setWeather 50 = .ok (.getfield 19, 3) := by decide +kernel
theorem dX3_setWeather_53 : decode cX3_setWeather 53 = .ok (.iload_n 1, 1) := by decide +kernel
theorem dX3_setWeather_54 : decode cX3_setWeather 54 = .ok (.iaload, 1) := by decide +kernel
theorem dX3_setWeather_55 : decode cX3_setWeather 55 = .ok (.imul, 1) := by decide +kernel
theorem dX3_setWeather_56 : decode cX3_setWeather 56 = .ok (.aload_n 0, 1) := by decide +kernel
theorem dX3_setWeather_57 : decode cX3_setWeather 57 = .ok (.getfield 22, 3) := by decide +kernel
theorem dX3_setWeather_60 : decode cX3_setWeather 60 = .ok (.iload_n 1, 1) := by decide +kernel
theorem dX3_setWeather_61 : decode cX3_setWeather 61 = .ok (.iaload, 1) := by decide +kernel
theorem dX3_setWeather_62 : decode cX3_setWeather 62 = .ok (.iadd, 1) := by decide +kernel
theorem dX3_setWeather_63 : decode cX3_setWeather 63 = .ok (.istore 4, 2) := by decide +kernel
theorem dX3_setWeather_65 : decode cX3_setWeather 65 = .ok (.aload_n 0, 1) := by decide +kernel
theorem dX3_setWeather_66 : decode cX3_setWeather 66 = .ok (.getfield 19, 3) := by decide +kernel
theorem dX3_setWeather_69 : decode cX3_setWeather 69 = .ok (.iload_n 1, 1) := by decide +kernel
theorem dX3_setWeather_70 : decode cX3_setWeather 70 = .ok (.iload_n 2, 1) := by decide +kernel
theorem dX3_setWeather_71 : decode cX3_setWeather 71 = .ok (.iastore, 1) := by decide +kernel
theorem dX3_setWeather_72 : decode cX3_setWeather 72 = .ok (.aload_n 0, 1) := by decide +kernel
theorem dX3_setWeather_73 : decode cX3_setWeather 73 = .ok (.getfield 22, 3) := by decide +kernel
theorem dX3_setWeather_76 : decode cX3_setWeather 76 = .ok (.iload_n 1, 1) := by decide +kernel
theorem dX3_setWeather_77 : decode cX3_setWeather 77 = .ok (.iload_n 3, 1) := by decide +kernel
theorem dX3_setWeather_78 : decode cX3_setWeather 78 = .ok (.iastore, 1) := by decide +kernel
theorem dX3_setWeather_79 : decode cX3_setWeather 79 = .ok (.iload 4, 2) := by decide +kernel
theorem dX3_setWeather_81 : decode cX3_setWeather 81 = .ok (.ireturn, 1) := by decide +kernel
theorem dX3_bundles_0 : decode cX3_bundles 0 = .ok (.iload_n 0, 1) := by decide +kernel
theorem dX3_bundles_1 : decode cX3_bundles 1 = .ok (.iconst 4, 1) := by decide +kernel
theorem dX3_bundles_2 : decode cX3_bundles 2 = .ok (.idiv, 1) := by decide +kernel
theorem dX3_bundles_3 : decode cX3_bundles 3 = .ok (.iconst 1, 1) := by decide +kernel
theorem dX3_bundles_4 : decode cX3_bundles 4 = .ok (.iadd, 1) := by decide +kernel
theorem dX3_bundles_5 : decode cX3_bundles 5 = .ok (.ireturn, 1) := by decide +kernel
set_option maxRecDepth 20000 in
theorem ggX3_isFree_X2_isThere : GoodIn wsX3_isFree wsX2_isThere := goodIn_r _ [6, 7, 8, 9, 10, 21, 22, 23, 24, 25, 26, 27, 28, 29, 30] (by decide +kernel) (by decide +kernel)
set_option maxRecDepth 20000 in
theorem gX3_isFree_X2_isThere : GoodIn wsX3_isFree (wsV RX3 66 RX2 yX2_isThere wsX2_isThere) := goodIn_app (goodIn_of _ (by decide +kernel)) ggX3_isFree_X2_isThere
theorem dX3_isFree_0 : decode cX3_isFree 0 = .ok (.aload_n 0, 1) := by decide +kernel
theorem dX3_isFree_1 : decode cX3_isFree 1 = .ok (.getfield 33, 3) := by decide +kernel
theorem dX3_isFree_4 : decode cX3_isFree 4 = .ok (.iload_n 1, 1) := by decide +kernel
theorem dX3_isFree_5 : decode cX3_isFree 5 = .ok (.iload_n 2, 1) := by decide +kernel
theorem dX3_isFree_6 : decode cX3_isFree 6 = .ok (.iload_n 3, 1) := by decide +kernel
theorem dX3_isFree_7 : decode cX3_isFree 7 = .ok (.invokevirtual 66, 3) := by decide +kernel
theorem dX3_isFree_10 : decode cX3_isFree 10 = .ok (.ifCond .ne 26, 3) := by decide +kernel
theorem dX3_isFree_13 : decode cX3_isFree 13 = .ok (.iload_n 2, 1) := by decide +kernel
theorem dX3_isFree_14 : decode cX3_isFree 14 = .ok (.ifCond .eq 18, 3) := by decide +kernel
theorem dX3_isFree_17 : decode cX3_isFree 17 = .ok (.aload_n 0, 1) := by decide +kernel
theorem dX3_isFree_18 : decode cX3_isFree 18 = .ok (.getfield 33, 3) := by decide +kernel
theorem dX3_isFree_21 : decode cX3_isFree 21 = .ok (.iload_n 1, 1) := by decide +kernel
theorem dX3_isFree_22 : decode cX3_isFree 22 = .ok (.iload_n 2, 1) := by decide +kernel
theorem dX3_isFree_23 : decode cX3_isFree 23 = .ok (.iconst 1, 1) := by decide +kernel
theorem dX3_isFree_24 : decode cX3_isFree 24 = .ok (.isub, 1) := by decide +kernel
theorem dX3_isFree_25 : decode cX3_isFree 25 = .ok (.iload_n 3, 1) := by decide +kernel
theorem dX3_isFree_26 : decode cX3_isFree 26 = .ok (.invokevirtual 66, 3) := by decide +kernel
theorem dX3_isFree_29 : decode cX3_isFree 29 = .ok (.ifCond .eq 7, 3) := by decide +kernel
theorem dX3_isFree_32 : decode cX3_isFree 32 = .ok (.iconst 1, 1) := by decide +kernel
theorem dX3_isFree_33 : decode cX3_isFree 33 = .ok (.goto 4, 3) := by decide +kernel
theorem dX3_isFree_36 : decode cX3_isFree 36 = .ok (.iconst 0, 1) := by decide +kernel
theorem dX3_isFree_37 : decode cX3_isFree 37 = .ok (.ireturn, 1) := by decide +kernel
set_option maxRecDepth 20000 in
theorem ggX3_lay_X3_isPlace : GoodIn wsX3_lay wsX3_isPlace := goodIn_r _ [8, 9, 10, 11, 12, 7, 13, 14, 15, 16, 17, 18, 19, 20, 21, 22, 50, 51, 52, 53, 54, 55, 56, 57, 58, 59] (by decide +kernel) (by decide +kernel)
set_option maxRecDepth 20000 in
theorem gX3_lay_X3_isPlace : GoodIn wsX3_lay (wsV RX3 69 RX3 yX3_isPlace wsX3_isPlace) := goodIn_app (goodIn_of _ (by decide +kernel)) ggX3_lay_X3_isPlace
set_option maxRecDepth 20000 in
theorem ggX3_lay_X3_isIn : GoodIn wsX3_lay wsX3_isIn := goodIn_r _ [22] (by decide +kernel) (by decide +kernel)
set_option maxRecDepth 20000 in
theorem gX3_lay_X3_isIn : GoodIn wsX3_lay (va_wsS RX3 47 yX3_isIn wsX3_isIn) := goodIn_app (goodIn_of _ (by decide +kernel)) ggX3_lay_X3_isIn
set_option maxRecDepth 20000 in
theorem ggX3_lay_X3_no : GoodIn wsX3_lay wsX3_no := goodIn_r _ [26, 1, 50, 51, 52, 53, 54, 55, 56, 57, 58, 59] (by decide +kernel) (by decide +kernel)
set_option maxRecDepth 20000 in
theorem gX3_lay_X3_no : GoodIn wsX3_lay (wsV RX3 59 RX3 yX3_no wsX3_no) := goodIn_app (goodIn_of _ (by decide +kernel)) ggX3_lay_X3_no
set_option maxRecDepth 20000 in
theorem ggX3_lay_X3_isFree : GoodIn wsX3_lay wsX3_isFree := goodIn_r _ [30, 3, 31, 32, 33, 34, 35, 36, 37, 7, 38, 50, 51, 52, 53, 54, 55, 56, 57, 58, 59, 60, 61, 62, 63, 64, 65, 66, 67, 68, 69] (by decide +kernel) (by decide +kernel)
set_option maxRecDepth 20000 in
theorem gX3_lay_X3_isFree : GoodIn wsX3_lay (wsV RX3 72 RX3 yX3_isFree wsX3_isFree) := goodIn_app (goodIn_of _ (by decide +kernel)) ggX3_lay_X3_isFree
set_option maxRecDepth 20000 in
theorem ggX3_lay_X3_bundles : GoodIn wsX3_lay wsX3_bundles := goodIn_r _ [41] (by decide +kernel) (by decide +kernel)
set_option maxRecDepth 20000 in
theorem gX3_lay_X3_bundles : GoodIn wsX3_lay (va_wsS RX3 75 yX3_bundles wsX3_bundles) := goodIn_app (goodIn_of _ (by decide +kernel)) ggX3_lay_X3_bundles
set_option maxRecDepth 20000 in
theorem ggX3_lay_X3_cell : GoodIn wsX3_lay wsX3_cell := goodIn_r _ [38] (by decide +kernel) (by decide +kernel)
set_option maxRecDepth 20000 in
theorem gX3_lay_X3_cell : GoodIn wsX3_lay (va_wsS RX3 78 yX3_cell wsX3_cell) := goodIn_app (goodIn_of _ (by decide +kernel)) ggX3_lay_X3_cell
set_option maxRecDepth 20000 in
theorem ggX3_lay_X2_put : GoodIn wsX3_lay wsX2_put := goodIn_r _ [46, 36, 47, 48, 49, 60, 61, 62, 63, 64, 65, 66, 67, 68, 69] (by decide +kernel) (by decide +kernel)
set_option maxRecDepth 20000 in
theorem gX3_lay_X2_put : GoodIn wsX3_lay (wsV RX3 82 RX2 yX2_put wsX2_put) := goodIn_app (goodIn_of _ (by decide +kernel)) ggX3_lay_X2_put
theorem dX3_lay_0 : decode cX3_lay 0 = .ok (.aload_n 0, 1) := by decide +kernel
theorem dX3_lay_1 : decode cX3_lay 1 = .ok (.iconst 0, 1) := by decide +kernel
theorem dX3_lay_2 : decode cX3_lay 2 = .ok (.putfield 40, 3) := by decide +kernel
theorem dX3_lay_5 : decode cX3_lay 5 = .ok (.aload_n 0, 1) := by decide +kernel
theorem dX3_lay_6 : decode cX3_lay 6 = .ok (.iload_n 1, 1) := by decide +kernel
theorem dX3_lay_7 : decode cX3_lay 7 = .ok (.iload_n 2, 1) := by decide +kernel
theorem dX3_lay_8 : decode cX3_lay 8 = .ok (.iload_n 3, 1) := by decide +kernel
theorem dX3_lay_9 : decode cX3_lay 9 = .ok (.invokevirtual 69, 3) := by decide +kernel
theorem dX3_lay_12 : decode cX3_lay 12 = .ok (.ifCond .eq 13, 3) := by decide +kernel
theorem dX3_lay_15 : decode cX3_lay 15 = .ok (.iload 4, 2) := by decide +kernel
theorem dX3_lay_17 : decode cX3_lay 17 = .ok (.iconst 0, 1) := by decide +kernel
theorem dX3_lay_18 : decode cX3_lay 18 = .ok (.iconst 2, 1) := by decide +kernel
theorem dX3_lay_19 : decode cX3_lay 19 = .ok (.invokestatic 47, 3) := by decide +kernel
theorem dX3_lay_22 : decode cX3_lay 22 = .ok (.ifCond .ne 9, 3) := by decide +kernel
theorem dX3_lay_25 : decode cX3_lay 25 = .ok (.aload_n 0, 1) := by decide +kernel
theorem dX3_lay_26 : decode cX3_lay 26 = .ok (.iconst 1, 1) := by decide +kernel
theorem dX3_lay_27 : decode cX3_lay 27 = .ok (.invokevirtual 59, 3) := by decide +kernel
theorem dX3_lay_30 : decode cX3_lay 30 = .ok (.ireturn, 1) := by decide +kernel
theorem dX3_lay_31 : decode cX3_lay 31 = .ok (.iload 5, 2) := by decide +kernel
theorem dX3_lay_33 : decode cX3_lay 33 = .ok (.iconst 1, 1) := by decide +kernel
theorem dX3_lay_34 : decode cX3_lay 34 = .ok (.bipush 40, 2) := by decide +kernel
theorem dX3_lay_36 : decode cX3_lay 36 = .ok (.invokestatic 47, 3) := by decide +kernel
theorem dX3_lay_39 : decode cX3_lay 39 = .ok (.ifCond .eq 14, 3) := by decide +kernel
theorem dX3_lay_42 : decode cX3_lay 42 = .ok (.iload 6, 2) := by decide +kernel
theorem dX3_lay_44 : decode cX3_lay 44 = .ok (.iconst 0, 1) := by decide +kernel
theorem dX3_lay_45 : decode cX3_lay 45 = .ok (.bipush 9, 2) := by decide +kernel
theorem dX3_lay_47 : decode cX3_lay 47 = .ok (.invokestatic 47, 3) := by decide +kernel
theorem dX3_lay_50 : decode cX3_lay 50 = .ok (.ifCond .ne 9, 3) := by decide +kernel
theorem dX3_lay_53 : decode cX3_lay 53 = .ok (.aload_n 0, 1) := by decide +kernel
theorem dX3_lay_54 : decode cX3_lay 54 = .ok (.iconst 2, 1) := by decide +kernel
theorem dX3_lay_55 : decode cX3_lay 55 = .ok (.invokevirtual 59, 3) := by decide +kernel
theorem dX3_lay_58 : decode cX3_lay 58 = .ok (.ireturn, 1) := by decide +kernel
theorem dX3_lay_59 : decode cX3_lay 59 = .ok (.aload_n 0, 1) := by decide +kernel
theorem dX3_lay_60 : decode cX3_lay 60 = .ok (.iload_n 1, 1) := by decide +kernel
theorem dX3_lay_61 : decode cX3_lay 61 = .ok (.iload_n 2, 1) := by decide +kernel
theorem dX3_lay_62 : decode cX3_lay 62 = .ok (.iload_n 3, 1) := by decide +kernel
theorem dX3_lay_63 : decode cX3_lay 63 = .ok (.invokevirtual 72, 3) := by decide +kernel
theorem dX3_lay_66 : decode cX3_lay 66 = .ok (.ifCond .eq 18, 3) := by decide +kernel
theorem dX3_lay_69 : decode cX3_lay 69 = .ok (.aload_n 0, 1) := by decide +kernel
theorem dX3_lay_70 : decode cX3_lay 70 = .ok (.getfield 25, 3) := by decide +kernel
theorem dX3_lay_73 : decode cX3_lay 73 = .ok (.iload 4, 2) := by decide +kernel
theorem dX3_lay_75 : decode cX3_lay 75 = .ok (.iaload, 1) := by decide +kernel
theorem dX3_lay_76 : decode cX3_lay 76 = .ok (.iload 5, 2) := by decide +kernel
theorem dX3_lay_78 : decode cX3_lay 78 = .ok (.invokestatic 75, 3) := by decide +kernel
theorem dX3_lay_81 : decode cX3_lay 81 = .ok (.if_icmp .ge 9, 3) := by decide +kernel
theorem dX3_lay_84 : decode cX3_lay 84 = .ok (.aload_n 0, 1) := by decide +kernel
theorem dX3_lay_85 : decode cX3_lay 85 = .ok (.iconst 3, 1) := by decide +kernel
theorem dX3_lay_86 : decode cX3_lay 86 = .ok (.invokevirtual 59, 3) := by decide +kernel
theorem dX3_lay_89 : decode cX3_lay 89 = .ok (.ireturn, 1) := by decide +kernel
theorem dX3_lay_90 : decode cX3_lay 90 = .ok (.aload_n 0, 1) := by decide +kernel
theorem dX3_lay_91 : decode cX3_lay 91 = .ok (.getfield 33, 3) := by decide +kernel
theorem dX3_lay_94 : decode cX3_lay 94 = .ok (.iload_n 1, 1) := by decide +kernel
theorem dX3_lay_95 : decode cX3_lay 95 = .ok (.iload_n 2, 1) := by decide +kernel
theorem dX3_lay_96 : decode cX3_lay 96 = .ok (.iload_n 3, 1) := by decide +kernel
theorem dX3_lay_97 : decode cX3_lay 97 = .ok (.invokestatic 78, 3) := by decide +kernel
theorem dX3_lay_100 : decode cX3_lay 100 = .ok (.iload 4, 2) := by decide +kernel
theorem dX3_lay_102 : decode cX3_lay 102 = .ok (.iload 5, 2) := by decide +kernel
theorem dX3_lay_104 : decode cX3_lay 104 = .ok (.iload 6, 2) := by decide +kernel
theorem dX3_lay_106 : decode cX3_lay 106 = .ok (.invokevirtual 82, 3) := by decide +kernel
theorem dX3_lay_109 : decode cX3_lay 109 = .ok (.aload_n 0, 1) := by decide +kernel
theorem dX3_lay_110 : decode cX3_lay 110 = .ok (.getfield 25, 3) := by decide +kernel
theorem dX3_lay_113 : decode cX3_lay 113 = .ok (.iload 4, 2) := by decide +kernel
theorem dX3_lay_115 : decode cX3_lay 115 = .ok (.dup2, 1) := by decide +kernel
theorem dX3_lay_116 : decode cX3_lay 116 = .ok (.iaload, 1) := by decide +kernel
theorem dX3_lay_117 : decode cX3_lay 117 = .ok (.iload 5, 2) := by decide +kernel
theorem dX3_lay_119 : decode cX3_lay 119 = .ok (.invokestatic 75, 3) := by decide +kernel
theorem dX3_lay_122 : decode cX3_lay 122 = .ok (.isub, 1) := by decide +kernel
theorem dX3_lay_123 : decode cX3_lay 123 = .ok (.iastore, 1) := by decide +kernel
theorem dX3_lay_124 : decode cX3_lay 124 = .ok (.iload 5, 2) := by decide +kernel
theorem dX3_lay_126 : decode cX3_lay 126 = .ok (.invokestatic 75, 3) := by decide +kernel
theorem dX3_lay_129 : decode cX3_lay 129 = .ok (.ireturn, 1) := by decide +kernel
set_option maxRecDepth 20000 in
theorem ggX3_layCourse_X3_isCourse : GoodIn wsX3_layCourse wsX3_isCourse := goodIn_r _ [9, 10, 11, 12, 13, 8, 14, 15, 16, 17, 18, 46, 47, 48, 49, 50, 51, 52, 53, 54, 55] (by decide +kernel) (by decide +kernel)
set_option maxRecDepth 20000 in
theorem gX3_layCourse_X3_isCourse : GoodIn wsX3_layCourse (wsV RX3 55 RX3 yX3_isCourse wsX3_isCourse) := goodIn_app (goodIn_of _ (by decide +kernel)) ggX3_layCourse_X3_isCourse
set_option maxRecDepth 20000 in
theorem ggX3_layCourse_X3_isIn : GoodIn wsX3_layCourse wsX3_isIn := goodIn_r _ [18] (by decide +kernel) (by decide +kernel)
set_option maxRecDepth 20000 in
theorem gX3_layCourse_X3_isIn : GoodIn wsX3_layCourse (va_wsS RX3 47 yX3_isIn wsX3_isIn) := goodIn_app (goodIn_of _ (by decide +kernel)) ggX3_layCourse_X3_isIn
set_option maxRecDepth 20000 in
theorem ggX3_layCourse_X3_no : GoodIn wsX3_layCourse wsX3_no := goodIn_r _ [22, 1, 46, 47, 48, 49, 50, 51, 52, 53, 54, 55] (by decide +kernel) (by decide +kernel)
set_option maxRecDepth 20000 in
theorem gX3_layCourse_X3_no : GoodIn wsX3_layCourse (wsV RX3 59 RX3 yX3_no wsX3_no) := goodIn_app (goodIn_of _ (by decide +kernel)) ggX3_layCourse_X3_no
set_option maxRecDepth 20000 in
theorem ggX3_layCourse_X3_isFree : GoodIn wsX3_layCourse wsX3_isFree := goodIn_r _ [26, 4, 27, 28, 29, 30, 31, 32, 33, 8, 34, 46, 47, 48, 49, 50, 51, 52, 53, 54, 55, 56, 57, 58, 59, 60, 61, 62, 63, 64, 65] (by decide +kernel) (by decide +kernel)
set_option maxRecDepth 20000 in
theorem gX3_layCourse_X3_isFree : GoodIn wsX3_layCourse (wsV RX3 72 RX3 yX3_isFree wsX3_isFree) := goodIn_app (goodIn_of _ (by decide +kernel)) ggX3_layCourse_X3_isFree
set_option maxRecDepth 20000 in
theorem ggX3_layCourse_X3_bundles : GoodIn wsX3_layCourse wsX3_bundles := goodIn_r _ [37] (by decide +kernel) (by decide +kernel)
set_option maxRecDepth 20000 in
theorem gX3_layCourse_X3_bundles : GoodIn wsX3_layCourse (va_wsS RX3 75 yX3_bundles wsX3_bundles) := goodIn_app (goodIn_of _ (by decide +kernel)) ggX3_layCourse_X3_bundles
set_option maxRecDepth 20000 in
theorem ggX3_layCourse_X3_cell : GoodIn wsX3_layCourse wsX3_cell := goodIn_r _ [34] (by decide +kernel) (by decide +kernel)
set_option maxRecDepth 20000 in
theorem gX3_layCourse_X3_cell : GoodIn wsX3_layCourse (va_wsS RX3 78 yX3_cell wsX3_cell) := goodIn_app (goodIn_of _ (by decide +kernel)) ggX3_layCourse_X3_cell
set_option maxRecDepth 20000 in
theorem ggX3_layCourse_X2_put : GoodIn wsX3_layCourse wsX2_put := goodIn_r _ [42, 32, 43, 44, 45, 56, 57, 58, 59, 60, 61, 62, 63, 64, 65] (by decide +kernel) (by decide +kernel)
set_option maxRecDepth 20000 in
theorem gX3_layCourse_X2_put : GoodIn wsX3_layCourse (wsV RX3 82 RX2 yX2_put wsX2_put) := goodIn_app (goodIn_of _ (by decide +kernel)) ggX3_layCourse_X2_put
theorem dX3_layCourse_0 : decode cX3_layCourse 0 = .ok (.aload_n 0, 1) := by decide +kernel
theorem dX3_layCourse_1 : decode cX3_layCourse 1 = .ok (.iconst 0, 1) := by decide +kernel
theorem dX3_layCourse_2 : decode cX3_layCourse 2 = .ok (.putfield 40, 3) := by decide +kernel
theorem dX3_layCourse_5 : decode cX3_layCourse 5 = .ok (.aload_n 0, 1) := by decide +kernel
theorem dX3_layCourse_6 : decode cX3_layCourse 6 = .ok (.iload_n 1, 1) := by decide +kernel
theorem dX3_layCourse_7 : decode cX3_layCourse 7 = .ok (.iload_n 2, 1) := by decide +kernel
theorem dX3_layCourse_8 : decode cX3_layCourse 8 = .ok (.invokevirtual 55, 3) := by decide +kernel
theorem dX3_layCourse_11 : decode cX3_layCourse 11 = .ok (.ifCond .eq 12, 3) := by decide +kernel
theorem dX3_layCourse_14 : decode cX3_layCourse 14 = .ok (.iload_n 3, 1) := by decide +kernel
theorem dX3_layCourse_15 : decode cX3_layCourse 15 = .ok (.iconst 0, 1) := by decide +kernel
theorem dX3_layCourse_16 : decode cX3_layCourse 16 = .ok (.iconst 2, 1) := by decide +kernel
theorem dX3_layCourse_17 : decode cX3_layCourse 17 = .ok (.invokestatic 47, 3) := by decide +kernel
theorem dX3_layCourse_20 : decode cX3_layCourse 20 = .ok (.ifCond .ne 9, 3) := by decide +kernel
theorem dX3_layCourse_23 : decode cX3_layCourse 23 = .ok (.aload_n 0, 1) := by decide +kernel
theorem dX3_layCourse_24 : decode cX3_layCourse 24 = .ok (.iconst 1, 1) := by decide +kernel
theorem dX3_layCourse_25 : decode cX3_layCourse 25 = .ok (.invokevirtual 59, 3) := by decide +kernel
theorem dX3_layCourse_28 : decode cX3_layCourse 28 = .ok (.ireturn, 1) := by decide +kernel
theorem dX3_layCourse_29 : decode cX3_layCourse 29 = .ok (.iload 4, 2) := by decide +kernel
theorem dX3_layCourse_31 : decode cX3_layCourse 31 = .ok (.iconst 1, 1) := by decide +kernel
theorem dX3_layCourse_32 : decode cX3_layCourse 32 = .ok (.bipush 40, 2) := by decide +kernel
theorem dX3_layCourse_34 : decode cX3_layCourse 34 = .ok (.invokestatic 47, 3) := by decide +kernel
theorem dX3_layCourse_37 : decode cX3_layCourse 37 = .ok (.ifCond .eq 14, 3) := by decide +kernel
theorem dX3_layCourse_40 : decode cX3_layCourse 40 = .ok (.iload 5, 2) := by decide +kernel
theorem dX3_layCourse_42 : decode cX3_layCourse 42 = .ok (.iconst 0, 1) := by decide +kernel
theorem dX3_layCourse_43 : decode cX3_layCourse 43 = .ok (.bipush 9, 2) := by decide +kernel
theorem dX3_layCourse_45 : decode cX3_layCourse 45 = .ok (.invokestatic 47, 3) := by decide +kernel
theorem dX3_layCourse_48 : decode cX3_layCourse 48 = .ok (.ifCond .ne 9, 3) := by decide +kernel
theorem dX3_layCourse_51 : decode cX3_layCourse 51 = .ok (.aload_n 0, 1) := by decide +kernel
theorem dX3_layCourse_52 : decode cX3_layCourse 52 = .ok (.iconst 2, 1) := by decide +kernel
theorem dX3_layCourse_53 : decode cX3_layCourse 53 = .ok (.invokevirtual 59, 3) := by decide +kernel
theorem dX3_layCourse_56 : decode cX3_layCourse 56 = .ok (.ireturn, 1) := by decide +kernel
theorem dX3_layCourse_57 : decode cX3_layCourse 57 = .ok (.iconst 0, 1) := by decide +kernel
theorem dX3_layCourse_58 : decode cX3_layCourse 58 = .ok (.istore 6, 2) := by decide +kernel
theorem dX3_layCourse_60 : decode cX3_layCourse 60 = .ok (.iconst 0, 1) := by decide +kernel
theorem dX3_layCourse_61 : decode cX3_layCourse 61 = .ok (.istore 7, 2) := by decide +kernel
theorem dX3_layCourse_63 : decode cX3_layCourse 63 = .ok (.iload 7, 2) := by decide +kernel
theorem dX3_layCourse_65 : decode cX3_layCourse 65 = .ok (.aload_n 0, 1) := by decide +kernel
theorem dX3_layCourse_66 : decode cX3_layCourse 66 = .ok (.getfield 9, 3) := by decide +kernel
theorem dX3_layCourse_69 : decode cX3_layCourse 69 = .ok (.iload_n 1, 1) := by decide +kernel
theorem dX3_layCourse_70 : decode cX3_layCourse 70 = .ok (.iaload, 1) := by decide +kernel
theorem dX3_layCourse_71 : decode cX3_layCourse 71 = .ok (.if_icmp .ge 73, 3) := by decide +kernel
theorem dX3_layCourse_74 : decode cX3_layCourse 74 = .ok (.aload_n 0, 1) := by decide +kernel
theorem dX3_layCourse_75 : decode cX3_layCourse 75 = .ok (.iload_n 1, 1) := by decide +kernel
theorem dX3_layCourse_76 : decode cX3_layCourse 76 = .ok (.iload_n 2, 1) := by decide +kernel
theorem dX3_layCourse_77 : decode cX3_layCourse 77 = .ok (.iload 7, 2) := by decide +kernel
theorem dX3_layCourse_79 : decode cX3_layCourse 79 = .ok (.invokevirtual 72, 3) := by decide +kernel
theorem dX3_layCourse_82 : decode cX3_layCourse 82 = .ok (.ifCond .eq 56, 3) := by decide +kernel
theorem dX3_layCourse_85 : decode cX3_layCourse 85 = .ok (.aload_n 0, 1) := by decide +kernel
theorem dX3_layCourse_86 : decode cX3_layCourse 86 = .ok (.getfield 25, 3) := by decide +kernel
theorem dX3_layCourse_89 : decode cX3_layCourse 89 = .ok (.iload_n 3, 1) := by decide +kernel
theorem dX3_layCourse_90 : decode cX3_layCourse 90 = .ok (.iaload, 1) := by decide +kernel
theorem dX3_layCourse_91 : decode cX3_layCourse 91 = .ok (.iload 4, 2) := by decide +kernel
theorem dX3_layCourse_93 : decode cX3_layCourse 93 = .ok (.invokestatic 75, 3) := by decide +kernel
theorem dX3_layCourse_96 : decode cX3_layCourse 96 = .ok (.if_icmp .ge 6, 3) := by decide +kernel
theorem dX3_layCourse_99 : decode cX3_layCourse 99 = .ok (.goto 39, 3) := by decide +kernel
theorem dX3_layCourse_102 : decode cX3_layCourse 102 = .ok (.aload_n 0, 1) := by decide +kernel
theorem dX3_layCourse_103 : decode cX3_layCourse 103 = .ok (.getfield 33, 3) := by decide +kernel
theorem dX3_layCourse_106 : decode cX3_layCourse 106 = .ok (.iload_n 1, 1) := by decide +kernel
theorem dX3_layCourse_107 : decode cX3_layCourse 107 = .ok (.iload_n 2, 1) := by decide +kernel
theorem dX3_layCourse_108 : decode cX3_layCourse 108 = .ok (.iload 7, 2) := by decide +kernel
theorem dX3_layCourse_110 : decode cX3_layCourse 110 = .ok (.invokestatic 78, 3) := by decide +kernel
theorem dX3_layCourse_113 : decode cX3_layCourse 113 = .ok (.iload_n 3, 1) := by decide +kernel
theorem dX3_layCourse_114 : decode cX3_layCourse 114 = .ok (.iload 4, 2) := by decide +kernel
theorem dX3_layCourse_116 : decode cX3_layCourse 116 = .ok (.iload 5, 2) := by decide +kernel
theorem dX3_layCourse_118 : decode cX3_layCourse 118 = .ok (.invokevirtual 82, 3) := by decide +kernel
theorem dX3_layCourse_121 : decode cX3_layCourse 121 = .ok (.aload_n 0, 1) := by decide +kernel
theorem dX3_layCourse_122 : decode cX3_layCourse 122 = .ok (.getfield 25, 3) := by decide +kernel
theorem dX3_layCourse_125 : decode cX3_layCourse 125 = .ok (.iload_n 3, 1) := by decide +kernel
theorem dX3_layCourse_126 : decode cX3_layCourse 126 = .ok (.dup2, 1) := by decide +kernel
theorem dX3_layCourse_127 : decode cX3_layCourse 127 = .ok (.iaload, 1) := by decide +kernel
theorem dX3_layCourse_128 : decode cX3_layCourse 128 = .ok (.iload 4, 2) := by decide +kernel
theorem dX3_layCourse_130 : decode cX3_layCourse 130 = .ok (.invokestatic 75, 3) := by decide +kernel
theorem dX3_layCourse_133 : decode cX3_layCourse 133 = .ok (.isub, 1) := by decide +kernel
theorem dX3_layCourse_134 : decode cX3_layCourse 134 = .ok (.iastore, 1) := by decide +kernel
theorem dX3_layCourse_135 : decode cX3_layCourse 135 = .ok (.iinc 6 1, 3) := by decide +kernel
theorem dX3_layCourse_138 : decode cX3_layCourse 138 = .ok (.iinc 7 1, 3) := by decide +kernel
theorem dX3_layCourse_141 : decode cX3_layCourse 141 = .ok (.goto (-78), 3) := by decide +kernel
theorem dX3_layCourse_144 : decode cX3_layCourse 144 = .ok (.iload 6, 2) := by decide +kernel
theorem dX3_layCourse_146 : decode cX3_layCourse 146 = .ok (.ireturn, 1) := by decide +kernel
set_option maxRecDepth 20000 in
theorem ggX3_mend_X3_isPlace : GoodIn wsX3_mend wsX3_isPlace := goodIn_r _ [8, 9, 10, 11, 12, 7, 13, 14, 15, 16, 17, 18, 19, 20, 21, 22, 42, 43, 44, 45, 46, 47, 48, 49, 50, 51] (by decide +kernel) (by decide +kernel)
set_option maxRecDepth 20000 in
theorem gX3_mend_X3_isPlace : GoodIn wsX3_mend (wsV RX3 69 RX3 yX3_isPlace wsX3_isPlace) := goodIn_app (goodIn_of _ (by decide +kernel)) ggX3_mend_X3_isPlace
set_option maxRecDepth 20000 in
theorem ggX3_mend_X3_no : GoodIn wsX3_mend wsX3_no := goodIn_r _ [26, 1, 42, 43, 44, 45, 46, 47, 48, 49, 50, 51] (by decide +kernel) (by decide +kernel)
set_option maxRecDepth 20000 in
theorem gX3_mend_X3_no : GoodIn wsX3_mend (wsV RX3 59 RX3 yX3_no wsX3_no) := goodIn_app (goodIn_of _ (by decide +kernel)) ggX3_mend_X3_no
set_option maxRecDepth 20000 in
theorem ggX3_mend_X3_cell : GoodIn wsX3_mend wsX3_cell := goodIn_r _ [29] (by decide +kernel) (by decide +kernel)
set_option maxRecDepth 20000 in
theorem gX3_mend_X3_cell : GoodIn wsX3_mend (va_wsS RX3 78 yX3_cell wsX3_cell) := goodIn_app (goodIn_of _ (by decide +kernel)) ggX3_mend_X3_cell
set_option maxRecDepth 20000 in
theorem ggX3_mend_X2_mend : GoodIn wsX3_mend wsX2_mend := goodIn_r _ [34, 35, 36, 37, 38, 39, 40, 41, 52, 53, 54, 55, 56, 57, 58, 59, 60, 61] (by decide +kernel) (by decide +kernel)
set_option maxRecDepth 20000 in
theorem gX3_mend_X2_mend : GoodIn wsX3_mend (wsV RX3 89 RX2 yX2_mend wsX2_mend) := goodIn_app (goodIn_of _ (by decide +kernel)) ggX3_mend_X2_mend
theorem dX3_mend_0 : decode cX3_mend 0 = .ok (.aload_n 0, 1) := by decide +kernel
theorem dX3_mend_1 : decode cX3_mend 1 = .ok (.iconst 0, 1) := by decide +kernel
theorem dX3_mend_2 : decode cX3_mend 2 = .ok (.putfield 40, 3) := by decide +kernel
theorem dX3_mend_5 : decode cX3_mend 5 = .ok (.aload_n 0, 1) := by decide +kernel
theorem dX3_mend_6 : decode cX3_mend 6 = .ok (.iload_n 1, 1) := by decide +kernel
theorem dX3_mend_7 : decode cX3_mend 7 = .ok (.iload_n 2, 1) := by decide +kernel
theorem dX3_mend_8 : decode cX3_mend 8 = .ok (.iload_n 3, 1) := by decide +kernel
theorem dX3_mend_9 : decode cX3_mend 9 = .ok (.invokevirtual 69, 3) := by decide +kernel
theorem dX3_mend_12 : decode cX3_mend 12 = .ok (.ifCond .ne 9, 3) := by decide +kernel
theorem dX3_mend_15 : decode cX3_mend 15 = .ok (.aload_n 0, 1) := by decide +kernel
theorem dX3_mend_16 : decode cX3_mend 16 = .ok (.iconst 1, 1) := by decide +kernel
theorem dX3_mend_17 : decode cX3_mend 17 = .ok (.invokevirtual 59, 3) := by decide +kernel
theorem dX3_mend_20 : decode cX3_mend 20 = .ok (.ireturn, 1) := by decide +kernel
theorem dX3_mend_21 : decode cX3_mend 21 = .ok (.iload_n 1, 1) := by decide +kernel
theorem dX3_mend_22 : decode cX3_mend 22 = .ok (.iload_n 2, 1) := by decide +kernel
theorem dX3_mend_23 : decode cX3_mend 23 = .ok (.iload_n 3, 1) := by decide +kernel
theorem dX3_mend_24 : decode cX3_mend 24 = .ok (.invokestatic 78, 3) := by decide +kernel
theorem dX3_mend_27 : decode cX3_mend 27 = .ok (.istore 4, 2) := by decide +kernel
theorem dX3_mend_29 : decode cX3_mend 29 = .ok (.aload_n 0, 1) := by decide +kernel
theorem dX3_mend_30 : decode cX3_mend 30 = .ok (.getfield 33, 3) := by decide +kernel
theorem dX3_mend_33 : decode cX3_mend 33 = .ok (.getfield 86, 3) := by decide +kernel
theorem dX3_mend_36 : decode cX3_mend 36 = .ok (.iload 4, 2) := by decide +kernel
theorem dX3_mend_38 : decode cX3_mend 38 = .ok (.iaload, 1) := by decide +kernel
theorem dX3_mend_39 : decode cX3_mend 39 = .ok (.iconst (-1), 1) := by decide +kernel
theorem dX3_mend_40 : decode cX3_mend 40 = .ok (.if_icmp .eq 22, 3) := by decide +kernel
theorem dX3_mend_43 : decode cX3_mend 43 = .ok (.aload_n 0, 1) := by decide +kernel
theorem dX3_mend_44 : decode cX3_mend 44 = .ok (.getfield 25, 3) := by decide +kernel
theorem dX3_mend_47 : decode cX3_mend 47 = .ok (.aload_n 0, 1) := by decide +kernel
theorem dX3_mend_48 : decode cX3_mend 48 = .ok (.getfield 33, 3) := by decide +kernel
theorem dX3_mend_51 : decode cX3_mend 51 = .ok (.getfield 86, 3) := by decide +kernel
theorem dX3_mend_54 : decode cX3_mend 54 = .ok (.iload 4, 2) := by decide +kernel
theorem dX3_mend_56 : decode cX3_mend 56 = .ok (.iaload, 1) := by decide +kernel
theorem dX3_mend_57 : decode cX3_mend 57 = .ok (.iaload, 1) := by decide +kernel
theorem dX3_mend_58 : decode cX3_mend 58 = .ok (.iconst 3, 1) := by decide +kernel
theorem dX3_mend_59 : decode cX3_mend 59 = .ok (.if_icmp .ge 9, 3) := by decide +kernel
theorem dX3_mend_62 : decode cX3_mend 62 = .ok (.aload_n 0, 1) := by decide +kernel
theorem dX3_mend_63 : decode cX3_mend 63 = .ok (.iconst 2, 1) := by decide +kernel
theorem dX3_mend_64 : decode cX3_mend 64 = .ok (.invokevirtual 59, 3) := by decide +kernel
theorem dX3_mend_67 : decode cX3_mend 67 = .ok (.ireturn, 1) := by decide +kernel
theorem dX3_mend_68 : decode cX3_mend 68 = .ok (.aload_n 0, 1) := by decide +kernel
theorem dX3_mend_69 : decode cX3_mend 69 = .ok (.getfield 25, 3) := by decide +kernel
theorem dX3_mend_72 : decode cX3_mend 72 = .ok (.aload_n 0, 1) := by decide +kernel
theorem dX3_mend_73 : decode cX3_mend 73 = .ok (.getfield 33, 3) := by decide +kernel
theorem dX3_mend_76 : decode cX3_mend 76 = .ok (.getfield 86, 3) := by decide +kernel
theorem dX3_mend_79 : decode cX3_mend 79 = .ok (.iload 4, 2) := by decide +kernel
theorem dX3_mend_81 : decode cX3_mend 81 = .ok (.iaload, 1) := by decide +kernel
theorem dX3_mend_82 : decode cX3_mend 82 = .ok (.dup2, 1) := by decide +kernel
theorem dX3_mend_83 : decode cX3_mend 83 = .ok (.iaload, 1) := by decide +kernel
theorem dX3_mend_84 : decode cX3_mend 84 = .ok (.iconst 3, 1) := by decide +kernel
theorem dX3_mend_85 : decode cX3_mend 85 = .ok (.isub, 1) := by decide +kernel
theorem dX3_mend_86 : decode cX3_mend 86 = .ok (.iastore, 1) := by decide +kernel
theorem dX3_mend_87 : decode cX3_mend 87 = .ok (.aload_n 0, 1) := by decide +kernel
theorem dX3_mend_88 : decode cX3_mend 88 = .ok (.getfield 33, 3) := by decide +kernel
theorem dX3_mend_91 : decode cX3_mend 91 = .ok (.iload 4, 2) := by decide +kernel
theorem dX3_mend_93 : decode cX3_mend 93 = .ok (.invokevirtual 89, 3) := by decide +kernel
theorem dX3_mend_96 : decode cX3_mend 96 = .ok (.aload_n 0, 1) := by decide +kernel
theorem dX3_mend_97 : decode cX3_mend 97 = .ok (.getfield 33, 3) := by decide +kernel
theorem dX3_mend_100 : decode cX3_mend 100 = .ok (.getfield 93, 3) := by decide +kernel
theorem dX3_mend_103 : decode cX3_mend 103 = .ok (.iload 4, 2) := by decide +kernel
theorem dX3_mend_105 : decode cX3_mend 105 = .ok (.iaload, 1) := by decide +kernel
theorem dX3_mend_106 : decode cX3_mend 106 = .ok (.ireturn, 1) := by decide +kernel
set_option maxRecDepth 20000 in
theorem ggX3_bind_X3_isRoof : GoodIn wsX3_bind wsX3_isRoof := goodIn_r _ [9, 10, 11, 12, 8, 13, 18, 19, 20, 21, 22, 23, 24, 25, 26, 27] (by decide +kernel) (by decide +kernel)
set_option maxRecDepth 20000 in
theorem gX3_bind_X3_isRoof : GoodIn wsX3_bind (wsV RX3 51 RX3 yX3_isRoof wsX3_isRoof) := goodIn_app (goodIn_of _ (by decide +kernel)) ggX3_bind_X3_isRoof
set_option maxRecDepth 20000 in
theorem ggX3_bind_X3_no : GoodIn wsX3_bind wsX3_no := goodIn_r _ [17, 1, 18, 19, 20, 21, 22, 23, 24, 25, 26, 27] (by decide +kernel) (by decide +kernel)
set_option maxRecDepth 20000 in
theorem gX3_bind_X3_no : GoodIn wsX3_bind (wsV RX3 59 RX3 yX3_no wsX3_no) := goodIn_app (goodIn_of _ (by decide +kernel)) ggX3_bind_X3_no
theorem dX3_bind_0 : decode cX3_bind 0 = .ok (.aload_n 0, 1) := by decide +kernel
theorem dX3_bind_1 : decode cX3_bind 1 = .ok (.iconst 0, 1) := by decide +kernel
theorem dX3_bind_2 : decode cX3_bind 2 = .ok (.putfield 40, 3) := by decide +kernel
theorem dX3_bind_5 : decode cX3_bind 5 = .ok (.aload_n 0, 1) := by decide +kernel
theorem dX3_bind_6 : decode cX3_bind 6 = .ok (.iload_n 1, 1) := by decide +kernel
theorem dX3_bind_7 : decode cX3_bind 7 = .ok (.invokevirtual 51, 3) := by decide +kernel
theorem dX3_bind_10 : decode cX3_bind 10 = .ok (.ifCond .ne 9, 3) := by decide +kernel
theorem dX3_bind_13 : decode cX3_bind 13 = .ok (.aload_n 0, 1) := by decide +kernel
theorem dX3_bind_14 : decode cX3_bind 14 = .ok (.iconst 1, 1) := by decide +kernel
theorem dX3_bind_15 : decode cX3_bind 15 = .ok (.invokevirtual 59, 3) := by decide +kernel
theorem dX3_bind_18 : decode cX3_bind 18 = .ok (.ireturn, 1) := by decide +kernel
theorem dX3_bind_19 : decode cX3_bind 19 = .ok (.aload_n 0, 1) := by decide +kernel
theorem dX3_bind_20 : decode cX3_bind 20 = .ok (.getfield 25, 3) := by decide +kernel
theorem dX3_bind_23 : decode cX3_bind 23 = .ok (.iconst 2, 1) := by decide +kernel
theorem dX3_bind_24 : decode cX3_bind 24 = .ok (.iaload, 1) := by decide +kernel
theorem dX3_bind_25 : decode cX3_bind 25 = .ok (.aload_n 0, 1) := by decide +kernel
theorem dX3_bind_26 : decode cX3_bind 26 = .ok (.getfield 9, 3) := by decide +kernel
theorem dX3_bind_29 : decode cX3_bind 29 = .ok (.iload_n 1, 1) := by decide +kernel
theorem dX3_bind_30 : decode cX3_bind 30 = .ok (.iaload, 1) := by decide +kernel
theorem dX3_bind_31 : decode cX3_bind 31 = .ok (.if_icmp .ge 9, 3) := by decide +kernel
theorem dX3_bind_34 : decode cX3_bind 34 = .ok (.aload_n 0, 1) := by decide +kernel
theorem dX3_bind_35 : decode cX3_bind 35 = .ok (.iconst 2, 1) := by decide +kernel
theorem dX3_bind_36 : decode cX3_bind 36 = .ok (.invokevirtual 59, 3) := by decide +kernel
theorem dX3_bind_39 : decode cX3_bind 39 = .ok (.ireturn, 1) := by decide +kernel
theorem dX3_bind_40 : decode cX3_bind 40 = .ok (.aload_n 0, 1) := by decide +kernel
theorem dX3_bind_41 : decode cX3_bind 41 = .ok (.getfield 25, 3) := by decide +kernel
theorem dX3_bind_44 : decode cX3_bind 44 = .ok (.iconst 2, 1) := by decide +kernel
theorem dX3_bind_45 : decode cX3_bind 45 = .ok (.dup2, 1) := by decide +kernel
theorem dX3_bind_46 : decode cX3_bind 46 = .ok (.iaload, 1) := by decide +kernel
theorem dX3_bind_47 : decode cX3_bind 47 = .ok (.aload_n 0, 1) := by decide +kernel
theorem dX3_bind_48 : decode cX3_bind 48 = .ok (.getfield 9, 3) := by decide +kernel
theorem dX3_bind_51 : decode cX3_bind 51 = .ok (.iload_n 1, 1) := by decide +kernel
theorem dX3_bind_52 : decode cX3_bind 52 = .ok (.iaload, 1) := by decide +kernel
theorem dX3_bind_53 : decode cX3_bind 53 = .ok (.isub, 1) := by decide +kernel
theorem dX3_bind_54 : decode cX3_bind 54 = .ok (.iastore, 1) := by decide +kernel
theorem dX3_bind_55 : decode cX3_bind 55 = .ok (.aload_n 0, 1) := by decide +kernel
theorem dX3_bind_56 : decode cX3_bind 56 = .ok (.getfield 33, 3) := by decide +kernel
theorem dX3_bind_59 : decode cX3_bind 59 = .ok (.getfield 63, 3) := by decide +kernel
theorem dX3_bind_62 : decode cX3_bind 62 = .ok (.iload_n 1, 1) := by decide +kernel
theorem dX3_bind_63 : decode cX3_bind 63 = .ok (.iaload, 1) := by decide +kernel
theorem dX3_bind_64 : decode cX3_bind 64 = .ok (.istore_n 2, 1) := by decide +kernel
theorem dX3_bind_65 : decode cX3_bind 65 = .ok (.aload_n 0, 1) := by decide +kernel
theorem dX3_bind_66 : decode cX3_bind 66 = .ok (.getfield 33, 3) := by decide +kernel
theorem dX3_bind_69 : decode cX3_bind 69 = .ok (.getfield 63, 3) := by decide +kernel
theorem dX3_bind_72 : decode cX3_bind 72 = .ok (.iload_n 1, 1) := by decide +kernel
theorem dX3_bind_73 : decode cX3_bind 73 = .ok (.bipush 100, 2) := by decide +kernel
theorem dX3_bind_75 : decode cX3_bind 75 = .ok (.iastore, 1) := by decide +kernel
theorem dX3_bind_76 : decode cX3_bind 76 = .ok (.iload_n 2, 1) := by decide +kernel
theorem dX3_bind_77 : decode cX3_bind 77 = .ok (.ireturn, 1) := by decide +kernel
set_option maxRecDepth 20000 in
theorem ggX3_yealmTold_X3_cell : GoodIn wsX3_yealmTold wsX3_cell := goodIn_r _ [6] (by decide +kernel) (by decide +kernel)
set_option maxRecDepth 20000 in
theorem gX3_yealmTold_X3_cell : GoodIn wsX3_yealmTold (va_wsS RX3 78 yX3_cell wsX3_cell) := goodIn_app (goodIn_of _ (by decide +kernel)) ggX3_yealmTold_X3_cell
set_option maxRecDepth 20000 in
theorem ggX3_yealmTold_X2_isBare : GoodIn wsX3_yealmTold wsX2_isBare := goodIn_r _ [11, 12, 13, 14, 15, 10, 16, 17, 4, 5, 6, 28, 29, 30, 31, 32, 33, 34, 35, 36, 37, 18, 19, 20, 21, 22, 23, 24, 25, 26, 27] (by decide +kernel) (by decide +kernel)
set_option maxRecDepth 20000 in
theorem gX3_yealmTold_X2_isBare : GoodIn wsX3_yealmTold (wsV RX3 102 RX2 yX2_isBare wsX2_isBare) := goodIn_app (goodIn_of _ (by decide +kernel)) ggX3_yealmTold_X2_isBare
theorem dX3_yealmTold_0 : decode cX3_yealmTold 0 = .ok (.iload_n 1, 1) := by decide +kernel
theorem dX3_yealmTold_1 : decode cX3_yealmTold 1 = .ok (.iload_n 2, 1) := by decide +kernel
theorem dX3_yealmTold_2 : decode cX3_yealmTold 2 = .ok (.iload_n 3, 1) := by decide +kernel
theorem dX3_yealmTold_3 : decode cX3_yealmTold 3 = .ok (.invokestatic 78, 3) := by decide +kernel
theorem dX3_yealmTold_6 : decode cX3_yealmTold 6 = .ok (.istore 5, 2) := by decide +kernel
theorem dX3_yealmTold_8 : decode cX3_yealmTold 8 = .ok (.bipush 6, 2) := by decide +kernel
theorem dX3_yealmTold_10 : decode cX3_yealmTold 10 = .ok (.newarray .int, 2) := by decide +kernel
theorem dX3_yealmTold_12 : decode cX3_yealmTold 12 = .ok (.dup, 1) := by decide +kernel
theorem dX3_yealmTold_13 : decode cX3_yealmTold 13 = .ok (.iconst 0, 1) := by decide +kernel
theorem dX3_yealmTold_14 : decode cX3_yealmTold 14 = .ok (.aload_n 0, 1) := by decide +kernel
theorem dX3_yealmTold_15 : decode cX3_yealmTold 15 = .ok (.getfield 33, 3) := by decide +kernel
theorem dX3_yealmTold_18 : decode cX3_yealmTold 18 = .ok (.getfield 86, 3) := by decide +kernel
theorem dX3_yealmTold_21 : decode cX3_yealmTold 21 = .ok (.iload 5, 2) := by decide +kernel
theorem dX3_yealmTold_23 : decode cX3_yealmTold 23 = .ok (.iaload, 1) := by decide +kernel
theorem dX3_yealmTold_24 : decode cX3_yealmTold 24 = .ok (.iconst (-1), 1) := by decide +kernel
theorem dX3_yealmTold_25 : decode cX3_yealmTold 25 = .ok (.if_icmp .ne 7, 3) := by decide +kernel
theorem dX3_yealmTold_28 : decode cX3_yealmTold 28 = .ok (.iconst 0, 1) := by decide +kernel
theorem dX3_yealmTold_29 : decode cX3_yealmTold 29 = .ok (.goto 4, 3) := by decide +kernel
theorem dX3_yealmTold_32 : decode cX3_yealmTold 32 = .ok (.iconst 1, 1) := by decide +kernel
theorem dX3_yealmTold_33 : decode cX3_yealmTold 33 = .ok (.iastore, 1) := by decide +kernel
theorem dX3_yealmTold_34 : decode cX3_yealmTold 34 = .ok (.dup, 1) := by decide +kernel
theorem dX3_yealmTold_35 : decode cX3_yealmTold 35 = .ok (.iconst 1, 1) := by decide +kernel
theorem dX3_yealmTold_36 : decode cX3_yealmTold 36 = .ok (.aload_n 0, 1) := by decide +kernel
theorem dX3_yealmTold_37 : decode cX3_yealmTold 37 = .ok (.getfield 33, 3) := by decide +kernel
theorem dX3_yealmTold_40 : decode cX3_yealmTold 40 = .ok (.getfield 86, 3) := by decide +kernel
theorem dX3_yealmTold_43 : decode cX3_yealmTold 43 = .ok (.iload 5, 2) := by decide +kernel
theorem dX3_yealmTold_45 : decode cX3_yealmTold 45 = .ok (.iaload, 1) := by decide +kernel
theorem dX3_yealmTold_46 : decode cX3_yealmTold 46 = .ok (.iastore, 1) := by decide +kernel
theorem dX3_yealmTold_47 : decode cX3_yealmTold 47 = .ok (.dup, 1) := by decide +kernel
theorem dX3_yealmTold_48 : decode cX3_yealmTold 48 = .ok (.iconst 2, 1) := by decide +kernel
theorem dX3_yealmTold_49 : decode cX3_yealmTold 49 = .ok (.aload_n 0, 1) := by decide +kernel
theorem dX3_yealmTold_50 : decode cX3_yealmTold 50 = .ok (.getfield 33, 3) := by decide +kernel
theorem dX3_yealmTold_53 : decode cX3_yealmTold 53 = .ok (.getfield 93, 3) := by decide +kernel
theorem dX3_yealmTold_56 : decode cX3_yealmTold 56 = .ok (.iload 5, 2) := by decide +kernel
theorem dX3_yealmTold_58 : decode cX3_yealmTold 58 = .ok (.iaload, 1) := by decide +kernel
theorem dX3_yealmTold_59 : decode cX3_yealmTold 59 = .ok (.iastore, 1) := by decide +kernel
theorem dX3_yealmTold_60 : decode cX3_yealmTold 60 = .ok (.dup, 1) := by decide +kernel
theorem dX3_yealmTold_61 : decode cX3_yealmTold 61 = .ok (.iconst 3, 1) := by decide +kernel
theorem dX3_yealmTold_62 : decode cX3_yealmTold 62 = .ok (.aload_n 0, 1) := by decide +kernel
theorem dX3_yealmTold_63 : decode cX3_yealmTold 63 = .ok (.getfield 33, 3) := by decide +kernel
theorem dX3_yealmTold_66 : decode cX3_yealmTold 66 = .ok (.getfield 96, 3) := by decide +kernel
theorem dX3_yealmTold_69 : decode cX3_yealmTold 69 = .ok (.iload 5, 2) := by decide +kernel
theorem dX3_yealmTold_71 : decode cX3_yealmTold 71 = .ok (.iaload, 1) := by decide +kernel
theorem dX3_yealmTold_72 : decode cX3_yealmTold 72 = .ok (.iastore, 1) := by decide +kernel
theorem dX3_yealmTold_73 : decode cX3_yealmTold 73 = .ok (.dup, 1) := by decide +kernel
theorem dX3_yealmTold_74 : decode cX3_yealmTold 74 = .ok (.iconst 4, 1) := by decide +kernel
theorem dX3_yealmTold_75 : decode cX3_yealmTold 75 = .ok (.aload_n 0, 1) := by decide +kernel
theorem dX3_yealmTold_76 : decode cX3_yealmTold 76 = .ok (.getfield 33, 3) := by decide +kernel
theorem dX3_yealmTold_79 : decode cX3_yealmTold 79 = .ok (.getfield 99, 3) := by decide +kernel
theorem dX3_yealmTold_82 : decode cX3_yealmTold 82 = .ok (.iload 5, 2) := by decide +kernel
theorem dX3_yealmTold_84 : decode cX3_yealmTold 84 = .ok (.iaload, 1) := by decide +kernel
theorem dX3_yealmTold_85 : decode cX3_yealmTold 85 = .ok (.iastore, 1) := by decide +kernel
theorem dX3_yealmTold_86 : decode cX3_yealmTold 86 = .ok (.dup, 1) := by decide +kernel
theorem dX3_yealmTold_87 : decode cX3_yealmTold 87 = .ok (.iconst 5, 1) := by decide +kernel
theorem dX3_yealmTold_88 : decode cX3_yealmTold 88 = .ok (.aload_n 0, 1) := by decide +kernel
theorem dX3_yealmTold_89 : decode cX3_yealmTold 89 = .ok (.getfield 33, 3) := by decide +kernel
theorem dX3_yealmTold_92 : decode cX3_yealmTold 92 = .ok (.iload_n 1, 1) := by decide +kernel
theorem dX3_yealmTold_93 : decode cX3_yealmTold 93 = .ok (.iload_n 2, 1) := by decide +kernel
theorem dX3_yealmTold_94 : decode cX3_yealmTold 94 = .ok (.iload_n 3, 1) := by decide +kernel
theorem dX3_yealmTold_95 : decode cX3_yealmTold 95 = .ok (.invokevirtual 102, 3) := by decide +kernel
theorem dX3_yealmTold_98 : decode cX3_yealmTold 98 = .ok (.ifCond .eq 7, 3) := by decide +kernel
theorem dX3_yealmTold_101 : decode cX3_yealmTold 101 = .ok (.iconst 1, 1) := by decide +kernel
theorem dX3_yealmTold_102 : decode cX3_yealmTold 102 = .ok (.goto 4, 3) := by decide +kernel
theorem dX3_yealmTold_105 : decode cX3_yealmTold 105 = .ok (.iconst 0, 1) := by decide +kernel
theorem dX3_yealmTold_106 : decode cX3_yealmTold 106 = .ok (.iastore, 1) := by decide +kernel
theorem dX3_yealmTold_107 : decode cX3_yealmTold 107 = .ok (.astore 6, 2) := by decide +kernel
theorem dX3_yealmTold_109 : decode cX3_yealmTold 109 = .ok (.aload 6, 2) := by decide +kernel
theorem dX3_yealmTold_111 : decode cX3_yealmTold 111 = .ok (.iload 4, 2) := by decide +kernel
theorem dX3_yealmTold_113 : decode cX3_yealmTold 113 = .ok (.iaload, 1) := by decide +kernel
theorem dX3_yealmTold_114 : decode cX3_yealmTold 114 = .ok (.ireturn, 1) := by decide +kernel
set_option maxRecDepth 20000 in
theorem ggX3_yealm_X3_isPlace : GoodIn wsX3_yealm wsX3_isPlace := goodIn_r _ [6, 7, 8, 9, 10, 5, 11, 12, 13, 14, 15, 16, 17, 18, 19, 20, 45, 46, 47, 48, 49, 50, 51, 52, 53, 54] (by decide +kernel) (by decide +kernel)
set_option maxRecDepth 20000 in
theorem gX3_yealm_X3_isPlace : GoodIn wsX3_yealm (wsV RX3 69 RX3 yX3_isPlace wsX3_isPlace) := goodIn_app (goodIn_of _ (by decide +kernel)) ggX3_yealm_X3_isPlace
set_option maxRecDepth 20000 in
theorem ggX3_yealm_X3_isIn : GoodIn wsX3_yealm wsX3_isIn := goodIn_r _ [20] (by decide +kernel) (by decide +kernel)
set_option maxRecDepth 20000 in
theorem gX3_yealm_X3_isIn : GoodIn wsX3_yealm (va_wsS RX3 47 yX3_isIn wsX3_isIn) := goodIn_app (goodIn_of _ (by decide +kernel)) ggX3_yealm_X3_isIn
set_option maxRecDepth 20000 in
theorem ggX3_yealm_X3_yealmTold : GoodIn wsX3_yealm wsX3_yealmTold := goodIn_r _ [24, 25, 26, 27, 28, 5, 29, 30, 31, 32, 33, 34, 35, 36, 37, 38, 39, 40, 45, 46, 47, 48, 49, 50, 51, 52, 53, 54, 55, 56, 57, 58, 59, 60, 61, 62, 63, 64] (by decide +kernel) (by decide +kernel)
set_option maxRecDepth 20000 in
theorem gX3_yealm_X3_yealmTold : GoodIn wsX3_yealm (wsV RX3 105 RX3 yX3_yealmTold wsX3_yealmTold) := goodIn_app (goodIn_of _ (by decide +kernel)) ggX3_yealm_X3_yealmTold
set_option maxRecDepth 20000 in
theorem ggX3_yealm_X3_no : GoodIn wsX3_yealm wsX3_no := goodIn_r _ [44, 1, 45, 46, 47, 48, 49, 50, 51, 52, 53, 54] (by decide +kernel) (by decide +kernel)
set_option maxRecDepth 20000 in
theorem gX3_yealm_X3_no : GoodIn wsX3_yealm (wsV RX3 59 RX3 yX3_no wsX3_no) := goodIn_app (goodIn_of _ (by decide +kernel)) ggX3_yealm_X3_no
theorem dX3_yealm_0 : decode cX3_yealm 0 = .ok (.aload_n 0, 1) := by decide +kernel
theorem dX3_yealm_1 : decode cX3_yealm 1 = .ok (.iconst 0, 1) := by decide +kernel
theorem dX3_yealm_2 : decode cX3_yealm 2 = .ok (.putfield 40, 3) := by decide +kernel
theorem dX3_yealm_5 : decode cX3_yealm 5 = .ok (.aload_n 0, 1) := by decide +kernel
theorem dX3_yealm_6 : decode cX3_yealm 6 = .ok (.iload_n 1, 1) := by decide +kernel
theorem dX3_yealm_7 : decode cX3_yealm 7 = .ok (.iload_n 2, 1) := by decide +kernel
theorem dX3_yealm_8 : decode cX3_yealm 8 = .ok (.iload_n 3, 1) := by decide +kernel
theorem dX3_yealm_9 : decode cX3_yealm 9 = .ok (.invokevirtual 69, 3) := by decide +kernel
theorem dX3_yealm_12 : decode cX3_yealm 12 = .ok (.ifCond .eq 25, 3) := by decide +kernel
theorem dX3_yealm_15 : decode cX3_yealm 15 = .ok (.iload 4, 2) := by decide +kernel
theorem dX3_yealm_17 : decode cX3_yealm 17 = .ok (.iconst 0, 1) := by decide +kernel
theorem dX3_yealm_18 : decode cX3_yealm 18 = .ok (.iconst 5, 1) := by decide +kernel
theorem dX3_yealm_19 : decode cX3_yealm 19 = .ok (.invokestatic 47, 3) := by decide +kernel
theorem dX3_yealm_22 : decode cX3_yealm 22 = .ok (.ifCond .eq 15, 3) := by decide +kernel
theorem dX3_yealm_25 : decode cX3_yealm 25 = .ok (.aload_n 0, 1) := by decide +kernel
theorem dX3_yealm_26 : decode cX3_yealm 26 = .ok (.iload_n 1, 1) := by decide +kernel
theorem dX3_yealm_27 : decode cX3_yealm 27 = .ok (.iload_n 2, 1) := by decide +kernel
theorem dX3_yealm_28 : decode cX3_yealm 28 = .ok (.iload_n 3, 1) := by decide +kernel
theorem dX3_yealm_29 : decode cX3_yealm 29 = .ok (.iload 4, 2) := by decide +kernel
theorem dX3_yealm_31 : decode cX3_yealm 31 = .ok (.invokevirtual 105, 3) := by decide +kernel
theorem dX3_yealm_34 : decode cX3_yealm 34 = .ok (.goto 8, 3) := by decide +kernel
theorem dX3_yealm_37 : decode cX3_yealm 37 = .ok (.aload_n 0, 1) := by decide +kernel
theorem dX3_yealm_38 : decode cX3_yealm 38 = .ok (.iconst 1, 1) := by decide +kernel
theorem dX3_yealm_39 : decode cX3_yealm 39 = .ok (.invokevirtual 59, 3) := by decide +kernel
theorem dX3_yealm_42 : decode cX3_yealm 42 = .ok (.ireturn, 1) := by decide +kernel
set_option maxRecDepth 20000 in
theorem ggX3_roofTold_X2_yealms : GoodIn wsX3_roofTold wsX2_yealms := goodIn_r _ [10, 11, 39, 40, 41, 42, 43, 44, 45, 46, 47, 48] (by decide +kernel) (by decide +kernel)
set_option maxRecDepth 20000 in
theorem gX3_roofTold_X2_yealms : GoodIn wsX3_roofTold (wsV RX3 109 RX2 yX2_yealms wsX2_yealms) := goodIn_app (goodIn_of _ (by decide +kernel)) ggX3_roofTold_X2_yealms
set_option maxRecDepth 20000 in
theorem ggX3_roofTold_X2_thickness : GoodIn wsX3_roofTold wsX2_thickness := goodIn_r _ [15, 16, 39, 40, 41, 42, 43, 44, 45, 46, 47, 48] (by decide +kernel) (by decide +kernel)
set_option maxRecDepth 20000 in
theorem gX3_roofTold_X2_thickness : GoodIn wsX3_roofTold (wsV RX3 112 RX2 yX2_thickness wsX2_thickness) := goodIn_app (goodIn_of _ (by decide +kernel)) ggX3_roofTold_X2_thickness
set_option maxRecDepth 20000 in
theorem ggX3_roofTold_X2_leaks : GoodIn wsX3_roofTold wsX2_leaks := goodIn_r _ [20, 21, 16, 22, 23, 24, 25, 26, 27, 9, 28, 11, 39, 40, 41, 42, 43, 44, 45, 46, 47, 48, 29, 30, 31, 32, 33, 34, 35, 36, 37, 38] (by decide +kernel) (by decide +kernel)
set_option maxRecDepth 20000 in
theorem gX3_roofTold_X2_leaks : GoodIn wsX3_roofTold (wsV RX3 115 RX2 yX2_leaks wsX2_leaks) := goodIn_app (goodIn_of _ (by decide +kernel)) ggX3_roofTold_X2_leaks
theorem dX3_roofTold_0 : decode cX3_roofTold 0 = .ok (.bipush 9, 2) := by decide +kernel
theorem dX3_roofTold_2 : decode cX3_roofTold 2 = .ok (.newarray .int, 2) := by decide +kernel
theorem dX3_roofTold_4 : decode cX3_roofTold 4 = .ok (.dup, 1) := by decide +kernel
theorem dX3_roofTold_5 : decode cX3_roofTold 5 = .ok (.iconst 0, 1) := by decide +kernel
theorem dX3_roofTold_6 : decode cX3_roofTold 6 = .ok (.aload_n 0, 1) := by decide +kernel
theorem dX3_roofTold_7 : decode cX3_roofTold 7 = .ok (.getfield 9, 3) := by decide +kernel
theorem dX3_roofTold_10 : decode cX3_roofTold 10 = .ok (.iload_n 1, 1) := by decide +kernel
theorem dX3_roofTold_11 : decode cX3_roofTold 11 = .ok (.iaload, 1) := by decide +kernel
theorem dX3_roofTold_12 : decode cX3_roofTold 12 = .ok (.iastore, 1) := by decide +kernel
theorem dX3_roofTold_13 : decode cX3_roofTold 13 = .ok (.dup, 1) := by decide +kernel
theorem dX3_roofTold_14 : decode cX3_roofTold 14 = .ok (.iconst 1, 1) := by decide +kernel
theorem dX3_roofTold_15 : decode cX3_roofTold 15 = .ok (.aload_n 0, 1) := by decide +kernel
theorem dX3_roofTold_16 : decode cX3_roofTold 16 = .ok (.getfield 13, 3) := by decide +kernel
theorem dX3_roofTold_19 : decode cX3_roofTold 19 = .ok (.iload_n 1, 1) := by decide +kernel
theorem dX3_roofTold_20 : decode cX3_roofTold 20 = .ok (.iaload, 1) := by decide +kernel
theorem dX3_roofTold_21 : decode cX3_roofTold 21 = .ok (.iastore, 1) := by decide +kernel
theorem dX3_roofTold_22 : decode cX3_roofTold 22 = .ok (.dup, 1) := by decide +kernel
theorem dX3_roofTold_23 : decode cX3_roofTold 23 = .ok (.iconst 2, 1) := by decide +kernel
theorem dX3_roofTold_24 : decode cX3_roofTold 24 = .ok (.aload_n 0, 1) := by decide +kernel
theorem dX3_roofTold_25 : decode cX3_roofTold 25 = .ok (.getfield 16, 3) := by decide +kernel
theorem dX3_roofTold_28 : decode cX3_roofTold 28 = .ok (.iload_n 1, 1) := by decide +kernel
theorem dX3_roofTold_29 : decode cX3_roofTold 29 = .ok (.iaload, 1) := by decide +kernel
theorem dX3_roofTold_30 : decode cX3_roofTold 30 = .ok (.iastore, 1) := by decide +kernel
theorem dX3_roofTold_31 : decode cX3_roofTold 31 = .ok (.dup, 1) := by decide +kernel
theorem dX3_roofTold_32 : decode cX3_roofTold 32 = .ok (.iconst 3, 1) := by decide +kernel
theorem dX3_roofTold_33 : decode cX3_roofTold 33 = .ok (.aload_n 0, 1) := by decide +kernel
theorem dX3_roofTold_34 : decode cX3_roofTold 34 = .ok (.getfield 33, 3) := by decide +kernel
theorem dX3_roofTold_37 : decode cX3_roofTold 37 = .ok (.getfield 63, 3) := by decide +kernel
theorem dX3_roofTold_40 : decode cX3_roofTold 40 = .ok (.iload_n 1, 1) := by decide +kernel
theorem dX3_roofTold_41 : decode cX3_roofTold 41 = .ok (.iaload, 1) := by decide +kernel
theorem dX3_roofTold_42 : decode cX3_roofTold 42 = .ok (.iastore, 1) := by decide +kernel
theorem dX3_roofTold_43 : decode cX3_roofTold 43 = .ok (.dup, 1) := by decide +kernel
theorem dX3_roofTold_44 : decode cX3_roofTold 44 = .ok (.iconst 4, 1) := by decide +kernel
theorem dX3_roofTold_45 : decode cX3_roofTold 45 = .ok (.aload_n 0, 1) := by decide +kernel
theorem dX3_roofTold_46 : decode cX3_roofTold 46 = .ok (.getfield 33, 3) := by decide +kernel
theorem dX3_roofTold_49 : decode cX3_roofTold 49 = .ok (.iload_n 1, 1) := by decide +kernel
theorem dX3_roofTold_50 : decode cX3_roofTold 50 = .ok (.invokevirtual 109, 3) := by decide +kernel
theorem dX3_roofTold_53 : decode cX3_roofTold 53 = .ok (.iastore, 1) := by decide +kernel
theorem dX3_roofTold_54 : decode cX3_roofTold 54 = .ok (.dup, 1) := by decide +kernel
theorem dX3_roofTold_55 : decode cX3_roofTold 55 = .ok (.iconst 5, 1) := by decide +kernel
theorem dX3_roofTold_56 : decode cX3_roofTold 56 = .ok (.aload_n 0, 1) := by decide +kernel
theorem dX3_roofTold_57 : decode cX3_roofTold 57 = .ok (.getfield 33, 3) := by decide +kernel
theorem dX3_roofTold_60 : decode cX3_roofTold 60 = .ok (.iload_n 1, 1) := by decide +kernel
theorem dX3_roofTold_61 : decode cX3_roofTold 61 = .ok (.invokevirtual 112, 3) := by decide +kernel
theorem dX3_roofTold_64 : decode cX3_roofTold 64 = .ok (.iastore, 1) := by decide +kernel
theorem dX3_roofTold_65 : decode cX3_roofTold 65 = .ok (.dup, 1) := by decide +kernel
theorem dX3_roofTold_66 : decode cX3_roofTold 66 = .ok (.bipush 6, 2) := by decide +kernel
theorem dX3_roofTold_68 : decode cX3_roofTold 68 = .ok (.aload_n 0, 1) := by decide +kernel
theorem dX3_roofTold_69 : decode cX3_roofTold 69 = .ok (.getfield 33, 3) := by decide +kernel
theorem dX3_roofTold_72 : decode cX3_roofTold 72 = .ok (.iload_n 1, 1) := by decide +kernel
theorem dX3_roofTold_73 : decode cX3_roofTold 73 = .ok (.invokevirtual 115, 3) := by decide +kernel
theorem dX3_roofTold_76 : decode cX3_roofTold 76 = .ok (.iastore, 1) := by decide +kernel
theorem dX3_roofTold_77 : decode cX3_roofTold 77 = .ok (.dup, 1) := by decide +kernel
theorem dX3_roofTold_78 : decode cX3_roofTold 78 = .ok (.bipush 7, 2) := by decide +kernel
theorem dX3_roofTold_80 : decode cX3_roofTold 80 = .ok (.aload_n 0, 1) := by decide +kernel
theorem dX3_roofTold_81 : decode cX3_roofTold 81 = .ok (.getfield 33, 3) := by decide +kernel
theorem dX3_roofTold_84 : decode cX3_roofTold 84 = .ok (.getfield 118, 3) := by decide +kernel
theorem dX3_roofTold_87 : decode cX3_roofTold 87 = .ok (.iload_n 1, 1) := by decide +kernel
theorem dX3_roofTold_88 : decode cX3_roofTold 88 = .ok (.iaload, 1) := by decide +kernel
theorem dX3_roofTold_89 : decode cX3_roofTold 89 = .ok (.iastore, 1) := by decide +kernel
theorem dX3_roofTold_90 : decode cX3_roofTold 90 = .ok (.dup, 1) := by decide +kernel
theorem dX3_roofTold_91 : decode cX3_roofTold 91 = .ok (.bipush 8, 2) := by decide +kernel
theorem dX3_roofTold_93 : decode cX3_roofTold 93 = .ok (.aload_n 0, 1) := by decide +kernel
theorem dX3_roofTold_94 : decode cX3_roofTold 94 = .ok (.getfield 33, 3) := by decide +kernel
theorem dX3_roofTold_97 : decode cX3_roofTold 97 = .ok (.getfield 121, 3) := by decide +kernel
theorem dX3_roofTold_100 : decode cX3_roofTold 100 = .ok (.iload_n 1, 1) := by decide +kernel
theorem dX3_roofTold_101 : decode cX3_roofTold 101 = .ok (.iaload, 1) := by decide +kernel
theorem dX3_roofTold_102 : decode cX3_roofTold 102 = .ok (.iastore, 1) := by decide +kernel
theorem dX3_roofTold_103 : decode cX3_roofTold 103 = .ok (.astore_n 3, 1) := by decide +kernel
theorem dX3_roofTold_104 : decode cX3_roofTold 104 = .ok (.aload_n 3, 1) := by decide +kernel
theorem dX3_roofTold_105 : decode cX3_roofTold 105 = .ok (.iload_n 2, 1) := by decide +kernel
theorem dX3_roofTold_106 : decode cX3_roofTold 106 = .ok (.iaload, 1) := by decide +kernel
theorem dX3_roofTold_107 : decode cX3_roofTold 107 = .ok (.ireturn, 1) := by decide +kernel
set_option maxRecDepth 20000 in
theorem ggX3_roof_X3_isRoof : GoodIn wsX3_roof wsX3_isRoof := goodIn_r _ [6, 7, 8, 9, 5, 10, 46, 47, 48, 49, 50, 51, 52, 53, 54, 55] (by decide +kernel) (by decide +kernel)
set_option maxRecDepth 20000 in
theorem gX3_roof_X3_isRoof : GoodIn wsX3_roof (wsV RX3 51 RX3 yX3_isRoof wsX3_isRoof) := goodIn_app (goodIn_of _ (by decide +kernel)) ggX3_roof_X3_isRoof
set_option maxRecDepth 20000 in
theorem ggX3_roof_X3_isIn : GoodIn wsX3_roof wsX3_isIn := goodIn_r _ [10] (by decide +kernel) (by decide +kernel)
set_option maxRecDepth 20000 in
theorem gX3_roof_X3_isIn : GoodIn wsX3_roof (va_wsS RX3 47 yX3_isIn wsX3_isIn) := goodIn_app (goodIn_of _ (by decide +kernel)) ggX3_roof_X3_isIn
set_option maxRecDepth 20000 in
theorem ggX3_roof_X3_roofTold : GoodIn wsX3_roof wsX3_roofTold := goodIn_r _ [14, 15, 16, 17, 18, 19, 20, 21, 22, 23, 24, 25, 26, 27, 28, 29, 30, 31, 32, 33, 34, 35, 36, 5, 37, 38, 39, 40, 41, 46, 47, 48, 49, 50, 51, 52, 53, 54, 55, 56, 57, 58, 59, 60, 61, 62, 63, 64, 65] (by decide +kernel) (by decide +kernel)
set_option maxRecDepth 20000 in
theorem gX3_roof_X3_roofTold : GoodIn wsX3_roof (wsV RX3 124 RX3 yX3_roofTold wsX3_roofTold) := goodIn_app (goodIn_of _ (by decide +kernel)) ggX3_roof_X3_roofTold
set_option maxRecDepth 20000 in
theorem ggX3_roof_X3_no : GoodIn wsX3_roof wsX3_no := goodIn_r _ [45, 1, 46, 47, 48, 49, 50, 51, 52, 53, 54, 55] (by decide +kernel) (by decide +kernel)
set_option maxRecDepth 20000 in
theorem gX3_roof_X3_no : GoodIn wsX3_roof (wsV RX3 59 RX3 yX3_no wsX3_no) := goodIn_app (goodIn_of _ (by decide +kernel)) ggX3_roof_X3_no
