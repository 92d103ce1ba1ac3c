theorem dX3_roof_0 : decode cX3_roof 0 = .ok (.aload_n 0, 1) := by decide +kernel
theorem dX3_roof_1 : decode cX3_roof 1 = .ok (.iconst 0, 1) := by decide +kernel
theorem dX3_roof_2 : decode cX3_roof 2 = .ok (.putfield 40, 3) := by decide +kernel
theorem dX3_roof_5 : decode cX3_roof 5 = .ok (.aload_n 0, 1) := by decide +kernel
theorem dX3_roof_6 : decode cX3_roof 6 = .ok (.iload_n 1, 1) := by decide +kernel
theorem dX3_roof_7 : decode cX3_roof 7 = .ok (.invokevirtual 51, 3) := by decide +kernel
theorem dX3_roof_10 : decode cX3_roof 10 = .ok (.ifCond .eq 22, 3) := by decide +kernel
theorem dX3_roof_13 : decode cX3_roof 13 = .ok (.iload_n 2, 1) := by decide +kernel
theorem dX3_roof_14 : decode cX3_roof 14 = .ok (.iconst 0, 1) := by decide +kernel
theorem dX3_roof_15 : decode cX3_roof 15 = .ok (.bipush 8, 2) := by decide +kernel
theorem dX3_roof_17 : decode cX3_roof 17 = .ok (.invokestatic 47, 3) := by decide +kernel
theorem dX3_roof_20 : decode cX3_roof 20 = .ok (.ifCond .eq 12, 3) := by decide +kernel
theorem dX3_roof_23 : decode cX3_roof 23 = .ok (.aload_n 0, 1) := by decide +kernel
theorem dX3_roof_24 : decode cX3_roof 24 = .ok (.iload_n 1, 1) := by decide +kernel
theorem dX3_roof_25 : decode cX3_roof 25 = .ok (.iload_n 2, 1) := by decide +kernel
theorem dX3_roof_26 : decode cX3_roof 26 = .ok (.invokevirtual 124, 3) := by decide +kernel
theorem dX3_roof_29 : decode cX3_roof 29 = .ok (.goto 8, 3) := by decide +kernel
theorem dX3_roof_32 : decode cX3_roof 32 = .ok (.aload_n 0, 1) := by decide +kernel
theorem dX3_roof_33 : decode cX3_roof 33 = .ok (.iconst 1, 1) := by decide +kernel
theorem dX3_roof_34 : decode cX3_roof 34 = .ok (.invokevirtual 59, 3) := by decide +kernel
theorem dX3_roof_37 : decode cX3_roof 37 = .ok (.ireturn, 1) := by decide +kernel
set_option maxRecDepth 20000 in
theorem ggX3_counted_X2_yealms : GoodIn wsX3_counted wsX2_yealms := goodIn_r _ [11, 12, 36, 37, 38, 39, 40, 41, 42, 43, 44, 45] (by decide +kernel) (by decide +kernel)
set_option maxRecDepth 20000 in
theorem gX3_counted_X2_yealms : GoodIn wsX3_counted (wsV RX3 109 RX2 yX2_yealms wsX2_yealms) := goodIn_app (goodIn_of _ (by decide +kernel)) ggX3_counted_X2_yealms
set_option maxRecDepth 20000 in
theorem ggX3_counted_X2_leaks : GoodIn wsX3_counted wsX2_leaks := goodIn_r _ [16, 17, 18, 19, 20, 21, 22, 23, 24, 10, 25, 12, 36, 37, 38, 39, 40, 41, 42, 43, 44, 45, 26, 27, 28, 29, 30, 31, 32, 33, 34, 35] (by decide +kernel) (by decide +kernel)
set_option maxRecDepth 20000 in
theorem gX3_counted_X2_leaks : GoodIn wsX3_counted (wsV RX3 115 RX2 yX2_leaks wsX2_leaks) := goodIn_app (goodIn_of _ (by decide +kernel)) ggX3_counted_X2_leaks
theorem dX3_counted_0 : decode cX3_counted 0 = .ok (.iconst 0, 1) := by decide +kernel
theorem dX3_counted_1 : decode cX3_counted 1 = .ok (.istore_n 2, 1) := by decide +kernel
theorem dX3_counted_2 : decode cX3_counted 2 = .ok (.iconst 0, 1) := by decide +kernel
theorem dX3_counted_3 : decode cX3_counted 3 = .ok (.istore_n 3, 1) := by decide +kernel
theorem dX3_counted_4 : decode cX3_counted 4 = .ok (.iconst 0, 1) := by decide +kernel
theorem dX3_counted_5 : decode cX3_counted 5 = .ok (.istore 4, 2) := by decide +kernel
theorem dX3_counted_7 : decode cX3_counted 7 = .ok (.iload 4, 2) := by decide +kernel
theorem dX3_counted_9 : decode cX3_counted 9 = .ok (.aload_n 0, 1) := by decide +kernel
theorem dX3_counted_10 : decode cX3_counted 10 = .ok (.getfield 44, 3) := by decide +kernel
theorem dX3_counted_13 : decode cX3_counted 13 = .ok (.if_icmp .ge 33, 3) := by decide +kernel
theorem dX3_counted_16 : decode cX3_counted 16 = .ok (.iload_n 2, 1) := by decide +kernel
theorem dX3_counted_17 : decode cX3_counted 17 = .ok (.aload_n 0, 1) := by decide +kernel
theorem dX3_counted_18 : decode cX3_counted 18 = .ok (.getfield 33, 3) := by decide +kernel
theorem dX3_counted_21 : decode cX3_counted 21 = .ok (.iload 4, 2) := by decide +kernel
theorem dX3_counted_23 : decode cX3_counted 23 = .ok (.invokevirtual 109, 3) := by decide +kernel
theorem dX3_counted_26 : decode cX3_counted 26 = .ok (.iadd, 1) := by decide +kernel
theorem dX3_counted_27 : decode cX3_counted 27 = .ok (.istore_n 2, 1) := by decide +kernel
theorem dX3_counted_28 : decode cX3_counted 28 = .ok (.iload_n 3, 1) := by decide +kernel
theorem dX3_counted_29 : decode cX3_counted 29 = .ok (.aload_n 0, 1) := by decide +kernel
theorem dX3_counted_30 : decode cX3_counted 30 = .ok (.getfield 33, 3) := by decide +kernel
theorem dX3_counted_33 : decode cX3_counted 33 = .ok (.iload 4, 2) := by decide +kernel
theorem dX3_counted_35 : decode cX3_counted 35 = .ok (.invokevirtual 115, 3) := by decide +kernel
theorem dX3_counted_38 : decode cX3_counted 38 = .ok (.iadd, 1) := by decide +kernel
theorem dX3_counted_39 : decode cX3_counted 39 = .ok (.istore_n 3, 1) := by decide +kernel
theorem dX3_counted_40 : decode cX3_counted 40 = .ok (.iinc 4 1, 3) := by decide +kernel
theorem dX3_counted_43 : decode cX3_counted 43 = .ok (.goto (-36), 3) := by decide +kernel
theorem dX3_counted_46 : decode cX3_counted 46 = .ok (.bipush 9, 2) := by decide +kernel
theorem dX3_counted_48 : decode cX3_counted 48 = .ok (.newarray .int, 2) := by decide +kernel
theorem dX3_counted_50 : decode cX3_counted 50 = .ok (.dup, 1) := by decide +kernel
theorem dX3_counted_51 : decode cX3_counted 51 = .ok (.iconst 0, 1) := by decide +kernel
theorem dX3_counted_52 : decode cX3_counted 52 = .ok (.aload_n 0, 1) := by decide +kernel
theorem dX3_counted_53 : decode cX3_counted 53 = .ok (.getfield 33, 3) := by decide +kernel
theorem dX3_counted_56 : decode cX3_counted 56 = .ok (.getfield 128, 3) := by decide +kernel
theorem dX3_counted_59 : decode cX3_counted 59 = .ok (.iastore, 1) := by decide +kernel
theorem dX3_counted_60 : decode cX3_counted 60 = .ok (.dup, 1) := by decide +kernel
theorem dX3_counted_61 : decode cX3_counted 61 = .ok (.iconst 1, 1) := by decide +kernel
theorem dX3_counted_62 : decode cX3_counted 62 = .ok (.aload_n 0, 1) := by decide +kernel
theorem dX3_counted_63 : decode cX3_counted 63 = .ok (.getfield 44, 3) := by decide +kernel
theorem dX3_counted_66 : decode cX3_counted 66 = .ok (.iastore, 1) := by decide +kernel
theorem dX3_counted_67 : decode cX3_counted 67 = .ok (.dup, 1) := by decide +kernel
theorem dX3_counted_68 : decode cX3_counted 68 = .ok (.iconst 2, 1) := by decide +kernel
theorem dX3_counted_69 : decode cX3_counted 69 = .ok (.aload_n 0, 1) := by decide +kernel
theorem dX3_counted_70 : decode cX3_counted 70 = .ok (.getfield 25, 3) := by decide +kernel
theorem dX3_counted_73 : decode cX3_counted 73 = .ok (.iconst 0, 1) := by decide +kernel
theorem dX3_counted_74 : decode cX3_counted 74 = .ok (.iaload, 1) := by decide +kernel
theorem dX3_counted_75 : decode cX3_counted 75 = .ok (.iastore, 1) := by decide +kernel
theorem dX3_counted_76 : decode cX3_counted 76 = .ok (.dup, 1) := by decide +kernel
theorem dX3_counted_77 : decode cX3_counted 77 = .ok (.iconst 3, 1) := by decide +kernel
theorem dX3_counted_78 : decode cX3_counted 78 = .ok (.aload_n 0, 1) := by decide +kernel
theorem dX3_counted_79 : decode cX3_counted 79 = .ok (.getfield 25, 3) := by decide +kernel
theorem dX3_counted_82 : decode cX3_counted 82 = .ok (.iconst 1, 1) := by decide +kernel
theorem dX3_counted_83 : decode cX3_counted 83 = .ok (.iaload, 1) := by decide +kernel
theorem dX3_counted_84 : decode cX3_counted 84 = .ok (.iastore, 1) := by decide +kernel
theorem dX3_counted_85 : decode cX3_counted 85 = .ok (.dup, 1) := by decide +kernel
theorem dX3_counted_86 : decode cX3_counted 86 = .ok (.iconst 4, 1) := by decide +kernel
theorem dX3_counted_87 : decode cX3_counted 87 = .ok (.aload_n 0, 1) := by decide +kernel
theorem dX3_counted_88 : decode cX3_counted 88 = .ok (.getfield 25, 3) := by decide +kernel
theorem dX3_counted_91 : decode cX3_counted 91 = .ok (.iconst 2, 1) := by decide +kernel
theorem dX3_counted_92 : decode cX3_counted 92 = .ok (.iaload, 1) := by decide +kernel
theorem dX3_counted_93 : decode cX3_counted 93 = .ok (.iastore, 1) := by decide +kernel
theorem dX3_counted_94 : decode cX3_counted 94 = .ok (.dup, 1) := by decide +kernel
theorem dX3_counted_95 : decode cX3_counted 95 = .ok (.iconst 5, 1) := by decide +kernel
theorem dX3_counted_96 : decode cX3_counted 96 = .ok (.iload_n 2, 1) := by decide +kernel
theorem dX3_counted_97 : decode cX3_counted 97 = .ok (.iastore, 1) := by decide +kernel
theorem dX3_counted_98 : decode cX3_counted 98 = .ok (.dup, 1) := by decide +kernel
theorem dX3_counted_99 : decode cX3_counted 99 = .ok (.bipush 6, 2) := by decide +kernel
theorem dX3_counted_101 : decode cX3_counted 101 = .ok (.iload_n 3, 1) := by decide +kernel
theorem dX3_counted_102 : decode cX3_counted 102 = .ok (.iastore, 1) := by decide +kernel
theorem dX3_counted_103 : decode cX3_counted 103 = .ok (.dup, 1) := by decide +kernel
theorem dX3_counted_104 : decode cX3_counted 104 = .ok (.bipush 7, 2) := by decide +kernel
theorem dX3_counted_106 : decode cX3_counted 106 = .ok (.aload_n 0, 1) := by decide +kernel
theorem dX3_counted_107 : decode cX3_counted 107 = .ok (.getfield 19, 3) := by decide +kernel
theorem dX3_counted_110 : decode cX3_counted 110 = .ok (.aload_n 0, 1) := by decide +kernel
theorem dX3_counted_111 : decode cX3_counted 111 = .ok (.getfield 33, 3) := by decide +kernel
theorem dX3_counted_114 : decode cX3_counted 114 = .ok (.getfield 128, 3) := by decide +kernel
theorem dX3_counted_117 : decode cX3_counted 117 = .ok (.bipush 12, 2) := by decide +kernel
theorem dX3_counted_119 : decode cX3_counted 119 = .ok (.irem, 1) := by decide +kernel
theorem dX3_counted_120 : decode cX3_counted 120 = .ok (.iaload, 1) := by decide +kernel
theorem dX3_counted_121 : decode cX3_counted 121 = .ok (.iastore, 1) := by decide +kernel
theorem dX3_counted_122 : decode cX3_counted 122 = .ok (.dup, 1) := by decide +kernel
theorem dX3_counted_123 : decode cX3_counted 123 = .ok (.bipush 8, 2) := by decide +kernel
theorem dX3_counted_125 : decode cX3_counted 125 = .ok (.aload_n 0, 1) := by decide +kernel
theorem dX3_counted_126 : decode cX3_counted 126 = .ok (.getfield 22, 3) := by decide +kernel
theorem dX3_counted_129 : decode cX3_counted 129 = .ok (.aload_n 0, 1) := by decide +kernel
theorem dX3_counted_130 : decode cX3_counted 130 = .ok (.getfield 33, 3) := by decide +kernel
theorem dX3_counted_133 : decode cX3_counted 133 = .ok (.getfield 128, 3) := by decide +kernel
theorem dX3_counted_136 : decode cX3_counted 136 = .ok (.bipush 12, 2) := by decide +kernel
theorem dX3_counted_138 : decode cX3_counted 138 = .ok (.irem, 1) := by decide +kernel
theorem dX3_counted_139 : decode cX3_counted 139 = .ok (.iaload, 1) := by decide +kernel
theorem dX3_counted_140 : decode cX3_counted 140 = .ok (.iastore, 1) := by decide +kernel
theorem dX3_counted_141 : decode cX3_counted 141 = .ok (.astore 4, 2) := by decide +kernel
theorem dX3_counted_143 : decode cX3_counted 143 = .ok (.aload 4, 2) := by decide +kernel
theorem dX3_counted_145 : decode cX3_counted 145 = .ok (.iload_n 1, 1) := by decide +kernel
theorem dX3_counted_146 : decode cX3_counted 146 = .ok (.iaload, 1) := by decide +kernel
theorem dX3_counted_147 : decode cX3_counted 147 = .ok (.ireturn, 1) := by decide +kernel
set_option maxRecDepth 20000 in
theorem ggX3_count_X3_isIn : GoodIn wsX3_count wsX3_isIn := goodIn_r _ [5] (by decide +kernel) (by decide +kernel)
set_option maxRecDepth 20000 in
theorem gX3_count_X3_isIn : GoodIn wsX3_count (va_wsS RX3 47 yX3_isIn wsX3_isIn) := goodIn_app (goodIn_of _ (by decide +kernel)) ggX3_count_X3_isIn
set_option maxRecDepth 20000 in
theorem ggX3_count_X3_counted : GoodIn wsX3_count wsX3_counted := goodIn_r _ [9, 10, 11, 12, 13, 14, 15, 16, 17, 18, 19, 20, 21, 22, 23, 24, 25, 26, 27, 28, 4, 29, 30, 31, 32, 33, 38, 39, 40, 41, 42, 43, 44, 45, 46, 47, 48, 49, 50, 51, 52, 53, 54, 55, 56, 57] (by decide +kernel) (by decide +kernel)
set_option maxRecDepth 20000 in
theorem gX3_count_X3_counted : GoodIn wsX3_count (wsV RX3 131 RX3 yX3_counted wsX3_counted) := goodIn_app (goodIn_of _ (by decide +kernel)) ggX3_count_X3_counted
set_option maxRecDepth 20000 in
theorem ggX3_count_X3_no : GoodIn wsX3_count wsX3_no := goodIn_r _ [37, 1, 38, 39, 40, 41, 42, 43, 44, 45, 46, 47] (by decide +kernel) (by decide +kernel)
set_option maxRecDepth 20000 in
theorem gX3_count_X3_no : GoodIn wsX3_count (wsV RX3 59 RX3 yX3_no wsX3_no) := goodIn_app (goodIn_of _ (by decide +kernel)) ggX3_count_X3_no
theorem dX3_count_0 : decode cX3_count 0 = .ok (.aload_n 0, 1) := by decide +kernel
theorem dX3_count_1 : decode cX3_count 1 = .ok (.iconst 0, 1) := by decide +kernel
theorem dX3_count_2 : decode cX3_count 2 = .ok (.putfield 40, 3) := by decide +kernel
theorem dX3_count_5 : decode cX3_count 5 = .ok (.iload_n 1, 1) := by decide +kernel
theorem dX3_count_6 : decode cX3_count 6 = .ok (.iconst 0, 1) := by decide +kernel
theorem dX3_count_7 : decode cX3_count 7 = .ok (.bipush 8, 2) := by decide +kernel
theorem dX3_count_9 : decode cX3_count 9 = .ok (.invokestatic 47, 3) := by decide +kernel
theorem dX3_count_12 : decode cX3_count 12 = .ok (.ifCond .eq 11, 3) := by decide +kernel
theorem dX3_count_15 : decode cX3_count 15 = .ok (.aload_n 0, 1) := by decide +kernel
theorem dX3_count_16 : decode cX3_count 16 = .ok (.iload_n 1, 1) := by decide +kernel
theorem dX3_count_17 : decode cX3_count 17 = .ok (.invokevirtual 131, 3) := by decide +kernel
theorem dX3_count_20 : decode cX3_count 20 = .ok (.goto 8, 3) := by decide +kernel
theorem dX3_count_23 : decode cX3_count 23 = .ok (.aload_n 0, 1) := by decide +kernel
theorem dX3_count_24 : decode cX3_count 24 = .ok (.iconst 1, 1) := by decide +kernel
theorem dX3_count_25 : decode cX3_count 25 = .ok (.invokevirtual 59, 3) := by decide +kernel
theorem dX3_count_28 : decode cX3_count 28 = .ok (.ireturn, 1) := by decide +kernel
set_option maxRecDepth 20000 in
theorem ggX3_pass_X3_isIn : GoodIn wsX3_pass wsX3_isIn := goodIn_r _ [7] (by decide +kernel) (by decide +kernel)
set_option maxRecDepth 20000 in
theorem gX3_pass_X3_isIn : GoodIn wsX3_pass (va_wsS RX3 47 yX3_isIn wsX3_isIn) := goodIn_app (goodIn_of _ (by decide +kernel)) ggX3_pass_X3_isIn
set_option maxRecDepth 20000 in
theorem ggX3_pass_X3_no : GoodIn wsX3_pass wsX3_no := goodIn_r _ [11, 1, 59, 60, 61, 62, 63, 64, 65, 66, 67, 68] (by decide +kernel) (by decide +kernel)
set_option maxRecDepth 20000 in
theorem gX3_pass_X3_no : GoodIn wsX3_pass (wsV RX3 59 RX3 yX3_no wsX3_no) := goodIn_app (goodIn_of _ (by decide +kernel)) ggX3_pass_X3_no
set_option maxRecDepth 20000 in
theorem ggX3_pass_X2_pass : GoodIn wsX3_pass wsX2_pass := goodIn_r _ [16, 17, 18, 19, 20, 21, 22, 23, 24, 25, 26, 27, 28, 29, 30, 31, 32, 33, 34, 15, 35, 36, 6, 37, 38, 39, 40, 41, 42, 43, 44, 45, 46, 47, 48, 49, 50, 51, 52, 53, 54, 55, 56, 57, 58, 69, 70, 71, 72, 73, 74, 75, 76, 77, 78, 59, 60, 61, 62, 63, 64, 65, 66, 67, 68] (by decide +kernel) (by decide +kernel)
set_option maxRecDepth 20000 in
theorem gX3_pass_X2_pass : GoodIn wsX3_pass (wsV RX3 134 RX2 yX2_pass wsX2_pass) := goodIn_app (goodIn_of _ (by decide +kernel)) ggX3_pass_X2_pass
theorem dX3_pass_0 : decode cX3_pass 0 = .ok (.aload_n 0, 1) := by decide +kernel
theorem dX3_pass_1 : decode cX3_pass 1 = .ok (.iconst 0, 1) := by decide +kernel
theorem dX3_pass_2 : decode cX3_pass 2 = .ok (.putfield 40, 3) := by decide +kernel
theorem dX3_pass_5 : decode cX3_pass 5 = .ok (.iload_n 1, 1) := by decide +kernel
theorem dX3_pass_6 : decode cX3_pass 6 = .ok (.iconst 1, 1) := by decide +kernel
theorem dX3_pass_7 : decode cX3_pass 7 = .ok (.bipush 120, 2) := by decide +kernel
theorem dX3_pass_9 : decode cX3_pass 9 = .ok (.invokestatic 47, 3) := by decide +kernel
theorem dX3_pass_12 : decode cX3_pass 12 = .ok (.ifCond .ne 9, 3) := by decide +kernel
theorem dX3_pass_15 : decode cX3_pass 15 = .ok (.aload_n 0, 1) := by decide +kernel
theorem dX3_pass_16 : decode cX3_pass 16 = .ok (.iconst 1, 1) := by decide +kernel
theorem dX3_pass_17 : decode cX3_pass 17 = .ok (.invokevirtual 59, 3) := by decide +kernel
theorem dX3_pass_20 : decode cX3_pass 20 = .ok (.ireturn, 1) := by decide +kernel
theorem dX3_pass_21 : decode cX3_pass 21 = .ok (.iconst 0, 1) := by decide +kernel
theorem dX3_pass_22 : decode cX3_pass 22 = .ok (.istore_n 2, 1) := by decide +kernel
theorem dX3_pass_23 : decode cX3_pass 23 = .ok (.iconst 0, 1) := by decide +kernel
theorem dX3_pass_24 : decode cX3_pass 24 = .ok (.istore_n 3, 1) := by decide +kernel
theorem dX3_pass_25 : decode cX3_pass 25 = .ok (.iconst 0, 1) := by decide +kernel
theorem dX3_pass_26 : decode cX3_pass 26 = .ok (.istore 4, 2) := by decide +kernel
theorem dX3_pass_28 : decode cX3_pass 28 = .ok (.iload 4, 2) := by decide +kernel
theorem dX3_pass_30 : decode cX3_pass 30 = .ok (.aload_n 0, 1) := by decide +kernel
theorem dX3_pass_31 : decode cX3_pass 31 = .ok (.getfield 44, 3) := by decide +kernel
theorem dX3_pass_34 : decode cX3_pass 34 = .ok (.if_icmp .ge 33, 3) := by decide +kernel
theorem dX3_pass_37 : decode cX3_pass 37 = .ok (.iload_n 2, 1) := by decide +kernel
theorem dX3_pass_38 : decode cX3_pass 38 = .ok (.aload_n 0, 1) := by decide +kernel
theorem dX3_pass_39 : decode cX3_pass 39 = .ok (.getfield 33, 3) := by decide +kernel
theorem dX3_pass_42 : decode cX3_pass 42 = .ok (.getfield 118, 3) := by decide +kernel
theorem dX3_pass_45 : decode cX3_pass 45 = .ok (.iload 4, 2) := by decide +kernel
theorem dX3_pass_47 : decode cX3_pass 47 = .ok (.iaload, 1) := by decide +kernel
theorem dX3_pass_48 : decode cX3_pass 48 = .ok (.aload_n 0, 1) := by decide +kernel
theorem dX3_pass_49 : decode cX3_pass 49 = .ok (.getfield 33, 3) := by decide +kernel
theorem dX3_pass_52 : decode cX3_pass 52 = .ok (.getfield 121, 3) := by decide +kernel
theorem dX3_pass_55 : decode cX3_pass 55 = .ok (.iload 4, 2) := by decide +kernel
theorem dX3_pass_57 : decode cX3_pass 57 = .ok (.iaload, 1) := by decide +kernel
theorem dX3_pass_58 : decode cX3_pass 58 = .ok (.iadd, 1) := by decide +kernel
theorem dX3_pass_59 : decode cX3_pass 59 = .ok (.iadd, 1) := by decide +kernel
theorem dX3_pass_60 : decode cX3_pass 60 = .ok (.istore_n 2, 1) := by decide +kernel
theorem dX3_pass_61 : decode cX3_pass 61 = .ok (.iinc 4 1, 3) := by decide +kernel
theorem dX3_pass_64 : decode cX3_pass 64 = .ok (.goto (-36), 3) := by decide +kernel
theorem dX3_pass_67 : decode cX3_pass 67 = .ok (.iconst 0, 1) := by decide +kernel
theorem dX3_pass_68 : decode cX3_pass 68 = .ok (.istore 4, 2) := by decide +kernel
theorem dX3_pass_70 : decode cX3_pass 70 = .ok (.iload 4, 2) := by decide +kernel
theorem dX3_pass_72 : decode cX3_pass 72 = .ok (.iload_n 1, 1) := by decide +kernel
theorem dX3_pass_73 : decode cX3_pass 73 = .ok (.if_icmp .ge 56, 3) := by decide +kernel
theorem dX3_pass_76 : decode cX3_pass 76 = .ok (.iconst 0, 1) := by decide +kernel
theorem dX3_pass_77 : decode cX3_pass 77 = .ok (.istore 5, 2) := by decide +kernel
theorem dX3_pass_79 : decode cX3_pass 79 = .ok (.iload 5, 2) := by decide +kernel
theorem dX3_pass_81 : decode cX3_pass 81 = .ok (.aload_n 0, 1) := by decide +kernel
theorem dX3_pass_82 : decode cX3_pass 82 = .ok (.getfield 44, 3) := by decide +kernel
theorem dX3_pass_85 : decode cX3_pass 85 = .ok (.if_icmp .ge 25, 3) := by decide +kernel
theorem dX3_pass_88 : decode cX3_pass 88 = .ok (.aload_n 0, 1) := by decide +kernel
theorem dX3_pass_89 : decode cX3_pass 89 = .ok (.getfield 33, 3) := by decide +kernel
theorem dX3_pass_92 : decode cX3_pass 92 = .ok (.iload 5, 2) := by decide +kernel
theorem dX3_pass_94 : decode cX3_pass 94 = .ok (.aload_n 0, 1) := by decide +kernel
theorem dX3_pass_95 : decode cX3_pass 95 = .ok (.getfield 33, 3) := by decide +kernel
theorem dX3_pass_98 : decode cX3_pass 98 = .ok (.getfield 128, 3) := by decide +kernel
theorem dX3_pass_101 : decode cX3_pass 101 = .ok (.invokevirtual 134, 3) := by decide +kernel
theorem dX3_pass_104 : decode cX3_pass 104 = .ok (.iinc 5 1, 3) := by decide +kernel
theorem dX3_pass_107 : decode cX3_pass 107 = .ok (.goto (-28), 3) := by decide +kernel
theorem dX3_pass_110 : decode cX3_pass 110 = .ok (.aload_n 0, 1) := by decide +kernel
theorem dX3_pass_111 : decode cX3_pass 111 = .ok (.getfield 33, 3) := by decide +kernel
theorem dX3_pass_114 : decode cX3_pass 114 = .ok (.dup, 1) := by decide +kernel
theorem dX3_pass_115 : decode cX3_pass 115 = .ok (.getfield 128, 3) := by decide +kernel
theorem dX3_pass_118 : decode cX3_pass 118 = .ok (.iconst 1, 1) := by decide +kernel
theorem dX3_pass_119 : decode cX3_pass 119 = .ok (.iadd, 1) := by decide +kernel
theorem dX3_pass_120 : decode cX3_pass 120 = .ok (.putfield 128, 3) := by decide +kernel
theorem dX3_pass_123 : decode cX3_pass 123 = .ok (.iinc 4 1, 3) := by decide +kernel
theorem dX3_pass_126 : decode cX3_pass 126 = .ok (.goto (-56), 3) := by decide +kernel
theorem dX3_pass_129 : decode cX3_pass 129 = .ok (.iconst 0, 1) := by decide +kernel
theorem dX3_pass_130 : decode cX3_pass 130 = .ok (.istore 4, 2) := by decide +kernel
theorem dX3_pass_132 : decode cX3_pass 132 = .ok (.iload 4, 2) := by decide +kernel
theorem dX3_pass_134 : decode cX3_pass 134 = .ok (.aload_n 0, 1) := by decide +kernel
theorem dX3_pass_135 : decode cX3_pass 135 = .ok (.getfield 44, 3) := by decide +kernel
theorem dX3_pass_138 : decode cX3_pass 138 = .ok (.if_icmp .ge 33, 3) := by decide +kernel
theorem dX3_pass_141 : decode cX3_pass 141 = .ok (.iload_n 3, 1) := by decide +kernel
theorem dX3_pass_142 : decode cX3_pass 142 = .ok (.aload_n 0, 1) := by decide +kernel
theorem dX3_pass_143 : decode cX3_pass 143 = .ok (.getfield 33, 3) := by decide +kernel
theorem dX3_pass_146 : decode cX3_pass 146 = .ok (.getfield 118, 3) := by decide +kernel
theorem dX3_pass_149 : decode cX3_pass 149 = .ok (.iload 4, 2) := by decide +kernel
theorem dX3_pass_151 : decode cX3_pass 151 = .ok (.iaload, 1) := by decide +kernel
theorem dX3_pass_152 : decode cX3_pass 152 = .ok (.aload_n 0, 1) := by decide +kernel
theorem dX3_pass_153 : decode cX3_pass 153 = .ok (.getfield 33, 3) := by decide +kernel
theorem dX3_pass_156 : decode cX3_pass 156 = .ok (.getfield 121, 3) := by decide +kernel
theorem dX3_pass_159 : decode cX3_pass 159 = .ok (.iload 4, 2) := by decide +kernel
theorem dX3_pass_161 : decode cX3_pass 161 = .ok (.iaload, 1) := by decide +kernel
theorem dX3_pass_162 : decode cX3_pass 162 = .ok (.iadd, 1) := by decide +kernel
theorem dX3_pass_163 : decode cX3_pass 163 = .ok (.iadd, 1) := by decide +kernel
theorem dX3_pass_164 : decode cX3_pass 164 = .ok (.istore_n 3, 1) := by decide +kernel
theorem dX3_pass_165 : decode cX3_pass 165 = .ok (.iinc 4 1, 3) := by decide +kernel
theorem dX3_pass_168 : decode cX3_pass 168 = .ok (.goto (-36), 3) := by decide +kernel
theorem dX3_pass_171 : decode cX3_pass 171 = .ok (.iload_n 3, 1) := by decide +kernel
theorem dX3_pass_172 : decode cX3_pass 172 = .ok (.iload_n 2, 1) := by decide +kernel
theorem dX3_pass_173 : decode cX3_pass 173 = .ok (.isub, 1) := by decide +kernel
theorem dX3_pass_174 : decode cX3_pass 174 = .ok (.ireturn, 1) := by decide +kernel
set_option maxRecDepth 20000 in
theorem ggX3_tears_X3_isRoof : GoodIn wsX3_tears wsX3_isRoof := goodIn_r _ [9, 10, 11, 12, 8, 13, 38, 39, 40, 41, 42, 43, 44, 45, 46, 47] (by decide +kernel) (by decide +kernel)
set_option maxRecDepth 20000 in
theorem gX3_tears_X3_isRoof : GoodIn wsX3_tears (wsV RX3 51 RX3 yX3_isRoof wsX3_isRoof) := goodIn_app (goodIn_of _ (by decide +kernel)) ggX3_tears_X3_isRoof
set_option maxRecDepth 20000 in
theorem ggX3_tears_X3_no : GoodIn wsX3_tears wsX3_no := goodIn_r _ [17, 1, 38, 39, 40, 41, 42, 43, 44, 45, 46, 47] (by decide +kernel) (by decide +kernel)
set_option maxRecDepth 20000 in
theorem gX3_tears_X3_no : GoodIn wsX3_tears (wsV RX3 59 RX3 yX3_no wsX3_no) := goodIn_app (goodIn_of _ (by decide +kernel)) ggX3_tears_X3_no
set_option maxRecDepth 20000 in
theorem ggX3_tears_X3_isIn : GoodIn wsX3_tears wsX3_isIn := goodIn_r _ [13] (by decide +kernel) (by decide +kernel)
set_option maxRecDepth 20000 in
theorem gX3_tears_X3_isIn : GoodIn wsX3_tears (va_wsS RX3 47 yX3_isIn wsX3_isIn) := goodIn_app (goodIn_of _ (by decide +kernel)) ggX3_tears_X3_isIn
set_option maxRecDepth 20000 in
theorem ggX3_tears_X2_isTorn : GoodIn wsX3_tears wsX2_isTorn := goodIn_r _ [22, 23, 24, 25, 26, 27, 28, 8, 29, 30, 31, 32, 21, 33, 34, 35, 36, 37, 48, 49, 50, 51, 52, 53, 54, 55, 56, 57, 38, 39, 40, 41, 42, 43, 44, 45, 46, 47] (by decide +kernel) (by decide +kernel)
set_option maxRecDepth 20000 in
theorem gX3_tears_X2_isTorn : GoodIn wsX3_tears (wsV RX3 138 RX2 yX2_isTorn wsX2_isTorn) := goodIn_app (goodIn_of _ (by decide +kernel)) ggX3_tears_X2_isTorn
theorem dX3_tears_0 : decode cX3_tears 0 = .ok (.aload_n 0, 1) := by decide +kernel
theorem dX3_tears_1 : decode cX3_tears 1 = .ok (.iconst 0, 1) := by decide +kernel
theorem dX3_tears_2 : decode cX3_tears 2 = .ok (.putfield 40, 3) := by decide +kernel
theorem dX3_tears_5 : decode cX3_tears 5 = .ok (.aload_n 0, 1) := by decide +kernel
theorem dX3_tears_6 : decode cX3_tears 6 = .ok (.iload_n 1, 1) := by decide +kernel
theorem dX3_tears_7 : decode cX3_tears 7 = .ok (.invokevirtual 51, 3) := by decide +kernel
theorem dX3_tears_10 : decode cX3_tears 10 = .ok (.ifCond .ne 9, 3) := by decide +kernel
theorem dX3_tears_13 : decode cX3_tears 13 = .ok (.aload_n 0, 1) := by decide +kernel
theorem dX3_tears_14 : decode cX3_tears 14 = .ok (.iconst 1, 1) := by decide +kernel
theorem dX3_tears_15 : decode cX3_tears 15 = .ok (.invokevirtual 59, 3) := by decide +kernel
theorem dX3_tears_18 : decode cX3_tears 18 = .ok (.ireturn, 1) := by decide +kernel
theorem dX3_tears_19 : decode cX3_tears 19 = .ok (.iload_n 2, 1) := by decide +kernel
theorem dX3_tears_20 : decode cX3_tears 20 = .ok (.iconst 0, 1) := by decide +kernel
theorem dX3_tears_21 : decode cX3_tears 21 = .ok (.bipush 9, 2) := by decide +kernel
theorem dX3_tears_23 : decode cX3_tears 23 = .ok (.invokestatic 47, 3) := by decide +kernel
theorem dX3_tears_26 : decode cX3_tears 26 = .ok (.ifCond .ne 9, 3) := by decide +kernel
theorem dX3_tears_29 : decode cX3_tears 29 = .ok (.aload_n 0, 1) := by decide +kernel
theorem dX3_tears_30 : decode cX3_tears 30 = .ok (.iconst 2, 1) := by decide +kernel
theorem dX3_tears_31 : decode cX3_tears 31 = .ok (.invokevirtual 59, 3) := by decide +kernel
theorem dX3_tears_34 : decode cX3_tears 34 = .ok (.ireturn, 1) := by decide +kernel
theorem dX3_tears_35 : decode cX3_tears 35 = .ok (.iconst 0, 1) := by decide +kernel
theorem dX3_tears_36 : decode cX3_tears 36 = .ok (.istore_n 3, 1) := by decide +kernel
theorem dX3_tears_37 : decode cX3_tears 37 = .ok (.iconst 0, 1) := by decide +kernel
theorem dX3_tears_38 : decode cX3_tears 38 = .ok (.istore 4, 2) := by decide +kernel
theorem dX3_tears_40 : decode cX3_tears 40 = .ok (.iload 4, 2) := by decide +kernel
theorem dX3_tears_42 : decode cX3_tears 42 = .ok (.aload_n 0, 1) := by decide +kernel
theorem dX3_tears_43 : decode cX3_tears 43 = .ok (.getfield 13, 3) := by decide +kernel
theorem dX3_tears_46 : decode cX3_tears 46 = .ok (.iload_n 1, 1) := by decide +kernel
theorem dX3_tears_47 : decode cX3_tears 47 = .ok (.iaload, 1) := by decide +kernel
theorem dX3_tears_48 : decode cX3_tears 48 = .ok (.if_icmp .ge 53, 3) := by decide +kernel
theorem dX3_tears_51 : decode cX3_tears 51 = .ok (.iconst 0, 1) := by decide +kernel
theorem dX3_tears_52 : decode cX3_tears 52 = .ok (.istore 5, 2) := by decide +kernel
theorem dX3_tears_54 : decode cX3_tears 54 = .ok (.iload 5, 2) := by decide +kernel
theorem dX3_tears_56 : decode cX3_tears 56 = .ok (.aload_n 0, 1) := by decide +kernel
theorem dX3_tears_57 : decode cX3_tears 57 = .ok (.getfield 9, 3) := by decide +kernel
theorem dX3_tears_60 : decode cX3_tears 60 = .ok (.iload_n 1, 1) := by decide +kernel
theorem dX3_tears_61 : decode cX3_tears 61 = .ok (.iaload, 1) := by decide +kernel
theorem dX3_tears_62 : decode cX3_tears 62 = .ok (.if_icmp .ge 33, 3) := by decide +kernel
theorem dX3_tears_65 : decode cX3_tears 65 = .ok (.iload_n 3, 1) := by decide +kernel
theorem dX3_tears_66 : decode cX3_tears 66 = .ok (.aload_n 0, 1) := by decide +kernel
theorem dX3_tears_67 : decode cX3_tears 67 = .ok (.getfield 33, 3) := by decide +kernel
theorem dX3_tears_70 : decode cX3_tears 70 = .ok (.iload_n 1, 1) := by decide +kernel
theorem dX3_tears_71 : decode cX3_tears 71 = .ok (.iload 4, 2) := by decide +kernel
theorem dX3_tears_73 : decode cX3_tears 73 = .ok (.iload 5, 2) := by decide +kernel
theorem dX3_tears_75 : decode cX3_tears 75 = .ok (.iload_n 2, 1) := by decide +kernel
theorem dX3_tears_76 : decode cX3_tears 76 = .ok (.invokevirtual 138, 3) := by decide +kernel
theorem dX3_tears_79 : decode cX3_tears 79 = .ok (.ifCond .eq 7, 3) := by decide +kernel
theorem dX3_tears_82 : decode cX3_tears 82 = .ok (.iconst 1, 1) := by decide +kernel
theorem dX3_tears_83 : decode cX3_tears 83 = .ok (.goto 4, 3) := by decide +kernel
theorem dX3_tears_86 : decode cX3_tears 86 = .ok (.iconst 0, 1) := by decide +kernel
theorem dX3_tears_87 : decode cX3_tears 87 = .ok (.iadd, 1) := by decide +kernel
theorem dX3_tears_88 : decode cX3_tears 88 = .ok (.istore_n 3, 1) := by decide +kernel
theorem dX3_tears_89 : decode cX3_tears 89 = .ok (.iinc 5 1, 3) := by decide +kernel
theorem dX3_tears_92 : decode cX3_tears 92 = .ok (.goto (-38), 3) := by decide +kernel
theorem dX3_tears_95 : decode cX3_tears 95 = .ok (.iinc 4 1, 3) := by decide +kernel
theorem dX3_tears_98 : decode cX3_tears 98 = .ok (.goto (-58), 3) := by decide +kernel
theorem dX3_tears_101 : decode cX3_tears 101 = .ok (.iload_n 3, 1) := by decide +kernel
theorem dX3_tears_102 : decode cX3_tears 102 = .ok (.ireturn, 1) := by decide +kernel
set_option maxRecDepth 20000 in
theorem ggX3_holds_X3_isRoof : GoodIn wsX3_holds wsX3_isRoof := goodIn_r _ [8, 9, 10, 11, 7, 12, 81, 82, 83, 84, 85, 86, 87, 88, 89, 90] (by decide +kernel) (by decide +kernel)
set_option maxRecDepth 20000 in
theorem gX3_holds_X3_isRoof : GoodIn wsX3_holds (wsV RX3 51 RX3 yX3_isRoof wsX3_isRoof) := goodIn_app (goodIn_of _ (by decide +kernel)) ggX3_holds_X3_isRoof
set_option maxRecDepth 20000 in
theorem ggX3_holds_X3_no : GoodIn wsX3_holds wsX3_no := goodIn_r _ [16, 1, 81, 82, 83, 84, 85, 86, 87, 88, 89, 90] (by decide +kernel) (by decide +kernel)
set_option maxRecDepth 20000 in
theorem gX3_holds_X3_no : GoodIn wsX3_holds (wsV RX3 59 RX3 yX3_no wsX3_no) := goodIn_app (goodIn_of _ (by decide +kernel)) ggX3_holds_X3_no
set_option maxRecDepth 20000 in
theorem ggX3_holds_X2_leaks : GoodIn wsX3_holds wsX2_leaks := goodIn_r _ [21, 22, 23, 24, 7, 25, 26, 27, 28, 20, 29, 30, 91, 92, 93, 94, 95, 96, 97, 98, 99, 100, 81, 82, 83, 84, 85, 86, 87, 88, 89, 90] (by decide +kernel) (by decide +kernel)
set_option maxRecDepth 20000 in
theorem gX3_holds_X2_leaks : GoodIn wsX3_holds (wsV RX3 115 RX2 yX2_leaks wsX2_leaks) := goodIn_app (goodIn_of _ (by decide +kernel)) ggX3_holds_X2_leaks
set_option maxRecDepth 20000 in
theorem ggX3_holds_X2_become : GoodIn wsX3_holds wsX2_become := goodIn_r _ [34, 35, 36, 37, 38, 30, 23, 39, 40, 41, 42, 43, 20, 44, 45, 46, 47, 48, 91, 92, 93, 94, 95, 96, 97, 98, 99, 100] (by decide +kernel) (by decide +kernel)
set_option maxRecDepth 20000 in
theorem gX3_holds_X2_become : GoodIn wsX3_holds (wsV RX3 142 RX2 yX2_become wsX2_become) := goodIn_app (goodIn_of _ (by decide +kernel)) ggX3_holds_X2_become
set_option maxRecDepth 20000 in
theorem ggX3_holds_X2_pass : GoodIn wsX3_holds wsX2_pass := goodIn_r _ [52, 22, 30, 23, 53, 38, 40, 54, 55, 56, 57, 37, 36, 58, 59, 60, 61, 62, 63, 20, 64, 24, 7, 25, 65, 66, 67, 68, 26, 27, 28, 29, 69, 70, 71, 72, 73, 74, 75, 76, 39, 77, 78, 79, 80, 91, 92, 93, 94, 95, 96, 97, 98, 99, 100, 81, 82, 83, 84, 85, 86, 87, 88, 89, 90] (by decide +kernel) (by decide +kernel)
set_option maxRecDepth 20000 in
theorem gX3_holds_X2_pass : GoodIn wsX3_holds (wsV RX3 134 RX2 yX2_pass wsX2_pass) := goodIn_app (goodIn_of _ (by decide +kernel)) ggX3_holds_X2_pass
theorem dX3_holds_0 : decode cX3_holds 0 = .ok (.aload_n 0, 1) := by decide +kernel
theorem dX3_holds_1 : decode cX3_holds 1 = .ok (.iconst 0, 1) := by decide +kernel
theorem dX3_holds_2 : decode cX3_holds 2 = .ok (.putfield 40, 3) := by decide +kernel
theorem dX3_holds_5 : decode cX3_holds 5 = .ok (.aload_n 0, 1) := by decide +kernel
theorem dX3_holds_6 : decode cX3_holds 6 = .ok (.iload_n 1, 1) := by decide +kernel
theorem dX3_holds_7 : decode cX3_holds 7 = .ok (.invokevirtual 51, 3) := by decide +kernel
theorem dX3_holds_10 : decode cX3_holds 10 = .ok (.ifCond .ne 9, 3) := by decide +kernel
theorem dX3_holds_13 : decode cX3_holds 13 = .ok (.aload_n 0, 1) := by decide +kernel
theorem dX3_holds_14 : decode cX3_holds 14 = .ok (.iconst 1, 1) := by decide +kernel
theorem dX3_holds_15 : decode cX3_holds 15 = .ok (.invokevirtual 59, 3) := by decide +kernel
theorem dX3_holds_18 : decode cX3_holds 18 = .ok (.ireturn, 1) := by decide +kernel
theorem dX3_holds_19 : decode cX3_holds 19 = .ok (.aload_n 0, 1) := by decide +kernel
theorem dX3_holds_20 : decode cX3_holds 20 = .ok (.getfield 33, 3) := by decide +kernel
theorem dX3_holds_23 : decode cX3_holds 23 = .ok (.iload_n 1, 1) := by decide +kernel
theorem dX3_holds_24 : decode cX3_holds 24 = .ok (.invokevirtual 115, 3) := by decide +kernel
theorem dX3_holds_27 : decode cX3_holds 27 = .ok (.istore_n 2, 1) := by decide +kernel
theorem dX3_holds_28 : decode cX3_holds 28 = .ok (.aload_n 0, 1) := by decide +kernel
theorem dX3_holds_29 : decode cX3_holds 29 = .ok (.getfield 37, 3) := by decide +kernel
theorem dX3_holds_32 : decode cX3_holds 32 = .ok (.aload_n 0, 1) := by decide +kernel
theorem dX3_holds_33 : decode cX3_holds 33 = .ok (.getfield 33, 3) := by decide +kernel
theorem dX3_holds_36 : decode cX3_holds 36 = .ok (.invokevirtual 142, 3) := by decide +kernel
theorem dX3_holds_39 : decode cX3_holds 39 = .ok (.iconst 1, 1) := by decide +kernel
theorem dX3_holds_40 : decode cX3_holds 40 = .ok (.istore_n 3, 1) := by decide +kernel
theorem dX3_holds_41 : decode cX3_holds 41 = .ok (.iload_n 3, 1) := by decide +kernel
theorem dX3_holds_42 : decode cX3_holds 42 = .ok (.bipush 120, 2) := by decide +kernel
theorem dX3_holds_44 : decode cX3_holds 44 = .ok (.if_icmp .gt 42, 3) := by decide +kernel
theorem dX3_holds_47 : decode cX3_holds 47 = .ok (.aload_n 0, 1) := by decide +kernel
theorem dX3_holds_48 : decode cX3_holds 48 = .ok (.getfield 37, 3) := by decide +kernel
theorem dX3_holds_51 : decode cX3_holds 51 = .ok (.iload_n 1, 1) := by decide +kernel
theorem dX3_holds_52 : decode cX3_holds 52 = .ok (.aload_n 0, 1) := by decide +kernel
theorem dX3_holds_53 : decode cX3_holds 53 = .ok (.getfield 33, 3) := by decide +kernel
theorem dX3_holds_56 : decode cX3_holds 56 = .ok (.getfield 128, 3) := by decide +kernel
theorem dX3_holds_59 : decode cX3_holds 59 = .ok (.iload_n 3, 1) := by decide +kernel
theorem dX3_holds_60 : decode cX3_holds 60 = .ok (.iadd, 1) := by decide +kernel
theorem dX3_holds_61 : decode cX3_holds 61 = .ok (.iconst 1, 1) := by decide +kernel
theorem dX3_holds_62 : decode cX3_holds 62 = .ok (.isub, 1) := by decide +kernel
theorem dX3_holds_63 : decode cX3_holds 63 = .ok (.invokevirtual 134, 3) := by decide +kernel
theorem dX3_holds_66 : decode cX3_holds 66 = .ok (.aload_n 0, 1) := by decide +kernel
theorem dX3_holds_67 : decode cX3_holds 67 = .ok (.getfield 37, 3) := by decide +kernel
theorem dX3_holds_70 : decode cX3_holds 70 = .ok (.iload_n 1, 1) := by decide +kernel
theorem dX3_holds_71 : decode cX3_holds 71 = .ok (.invokevirtual 115, 3) := by decide +kernel
theorem dX3_holds_74 : decode cX3_holds 74 = .ok (.iload_n 2, 1) := by decide +kernel
theorem dX3_holds_75 : decode cX3_holds 75 = .ok (.if_icmp .le 5, 3) := by decide +kernel
theorem dX3_holds_78 : decode cX3_holds 78 = .ok (.iload_n 3, 1) := by decide +kernel
theorem dX3_holds_79 : decode cX3_holds 79 = .ok (.ireturn, 1) := by decide +kernel
theorem dX3_holds_80 : decode cX3_holds 80 = .ok (.iinc 3 1, 3) := by decide +kernel
theorem dX3_holds_83 : decode cX3_holds 83 = .ok (.goto (-42), 3) := by decide +kernel
theorem dX3_holds_86 : decode cX3_holds 86 = .ok (.iconst (-1), 1) := by decide +kernel
theorem dX3_holds_87 : decode cX3_holds 87 = .ok (.ireturn, 1) := by decide +kernel
set_option maxRecDepth 20000 in
theorem ggX3_foresee_X3_isRoof : GoodIn wsX3_foresee wsX3_isRoof := goodIn_r _ [8, 9, 10, 11, 7, 12, 85, 86, 87, 88, 89, 90, 91, 92, 93, 94] (by decide +kernel) (by decide +kernel)
set_option maxRecDepth 20000 in
theorem gX3_foresee_X3_isRoof : GoodIn wsX3_foresee (wsV RX3 51 RX3 yX3_isRoof wsX3_isRoof) := goodIn_app (goodIn_of _ (by decide +kernel)) ggX3_foresee_X3_isRoof
set_option maxRecDepth 20000 in
theorem ggX3_foresee_X3_isIn : GoodIn wsX3_foresee wsX3_isIn := goodIn_r _ [12] (by decide +kernel) (by decide +kernel)
set_option maxRecDepth 20000 in
theorem gX3_foresee_X3_isIn : GoodIn wsX3_foresee (va_wsS RX3 47 yX3_isIn wsX3_isIn) := goodIn_app (goodIn_of _ (by decide +kernel)) ggX3_foresee_X3_isIn
set_option maxRecDepth 20000 in
theorem ggX3_foresee_X3_no : GoodIn wsX3_foresee wsX3_no := goodIn_r _ [16, 1, 85, 86, 87, 88, 89, 90, 91, 92, 93, 94] (by decide +kernel) (by decide +kernel)
set_option maxRecDepth 20000 in
theorem gX3_foresee_X3_no : GoodIn wsX3_foresee (wsV RX3 59 RX3 yX3_no wsX3_no) := goodIn_app (goodIn_of _ (by decide +kernel)) ggX3_foresee_X3_no
set_option maxRecDepth 20000 in
theorem ggX3_foresee_X2_become : GoodIn wsX3_foresee wsX2_become := goodIn_r _ [21, 22, 23, 24, 25, 26, 27, 28, 29, 30, 31, 32, 20, 33, 34, 35, 36, 37, 95, 96, 97, 98, 99, 100, 101, 102, 103, 104] (by decide +kernel) (by decide +kernel)
set_option maxRecDepth 20000 in
theorem gX3_foresee_X2_become : GoodIn wsX3_foresee (wsV RX3 142 RX2 yX2_become wsX2_become) := goodIn_app (goodIn_of _ (by decide +kernel)) ggX3_foresee_X2_become
set_option maxRecDepth 20000 in
theorem ggX3_foresee_X2_pass : GoodIn wsX3_foresee wsX2_pass := goodIn_r _ [41, 42, 26, 27, 43, 25, 29, 44, 45, 46, 47, 24, 23, 48, 49, 50, 51, 52, 53, 20, 54, 55, 7, 56, 57, 58, 59, 60, 61, 62, 63, 64, 65, 66, 67, 68, 69, 70, 71, 72, 28, 73, 74, 75, 76, 95, 96, 97, 98, 99, 100, 101, 102, 103, 104, 85, 86, 87, 88, 89, 90, 91, 92, 93, 94] (by decide +kernel) (by decide +kernel)
set_option maxRecDepth 20000 in
theorem gX3_foresee_X2_pass : GoodIn wsX3_foresee (wsV RX3 134 RX2 yX2_pass wsX2_pass) := goodIn_app (goodIn_of _ (by decide +kernel)) ggX3_foresee_X2_pass
set_option maxRecDepth 20000 in
theorem ggX3_foresee_X2_yealms : GoodIn wsX3_foresee wsX2_yealms := goodIn_r _ [80, 26, 95, 96, 97, 98, 99, 100, 101, 102, 103, 104] (by decide +kernel) (by decide +kernel)
set_option maxRecDepth 20000 in
theorem gX3_foresee_X2_yealms : GoodIn wsX3_foresee (wsV RX3 109 RX2 yX2_yealms wsX2_yealms) := goodIn_app (goodIn_of _ (by decide +kernel)) ggX3_foresee_X2_yealms
set_option maxRecDepth 20000 in
theorem ggX3_foresee_X2_leaks : GoodIn wsX3_foresee wsX2_leaks := goodIn_r _ [84, 42, 27, 55, 7, 56, 61, 62, 63, 20, 64, 26, 95, 96, 97, 98, 99, 100, 101, 102, 103, 104, 85, 86, 87, 88, 89, 90, 91, 92, 93, 94] (by decide +kernel) (by decide +kernel)
set_option maxRecDepth 20000 in
theorem gX3_foresee_X2_leaks : GoodIn wsX3_foresee (wsV RX3 115 RX2 yX2_leaks wsX2_leaks) := goodIn_app (goodIn_of _ (by decide +kernel)) ggX3_foresee_X2_leaks
theorem dX3_foresee_0 : decode cX3_foresee 0 = .ok (.aload_n 0, 1) := by decide +kernel
theorem dX3_foresee_1 : decode cX3_foresee 1 = .ok (.iconst 0, 1) := by decide +kernel
theorem dX3_foresee_2 : decode cX3_foresee 2 = .ok (.putfield 40, 3) := by decide +kernel
theorem dX3_foresee_5 : decode cX3_foresee 5 = .ok (.aload_n 0, 1) := by decide +kernel
theorem dX3_foresee_6 : decode cX3_foresee 6 = .ok (.iload_n 1, 1) := by decide +kernel
theorem dX3_foresee_7 : decode cX3_foresee 7 = .ok (.invokevirtual 51, 3) := by decide +kernel
theorem dX3_foresee_10 : decode cX3_foresee 10 = .ok (.ifCond .eq 12, 3) := by decide +kernel
theorem dX3_foresee_13 : decode cX3_foresee 13 = .ok (.iload_n 3, 1) := by decide +kernel
theorem dX3_foresee_14 : decode cX3_foresee 14 = .ok (.iconst 0, 1) := by decide +kernel
theorem dX3_foresee_15 : decode cX3_foresee 15 = .ok (.iconst 2, 1) := by decide +kernel
theorem dX3_foresee_16 : decode cX3_foresee 16 = .ok (.invokestatic 47, 3) := by decide +kernel
theorem dX3_foresee_19 : decode cX3_foresee 19 = .ok (.ifCond .ne 9, 3) := by decide +kernel
theorem dX3_foresee_22 : decode cX3_foresee 22 = .ok (.aload_n 0, 1) := by decide +kernel
theorem dX3_foresee_23 : decode cX3_foresee 23 = .ok (.iconst 1, 1) := by decide +kernel
theorem dX3_foresee_24 : decode cX3_foresee 24 = .ok (.invokevirtual 59, 3) := by decide +kernel
theorem dX3_foresee_27 : decode cX3_foresee 27 = .ok (.ireturn, 1) := by decide +kernel
theorem dX3_foresee_28 : decode cX3_foresee 28 = .ok (.iload_n 2, 1) := by decide +kernel
theorem dX3_foresee_29 : decode cX3_foresee 29 = .ok (.iconst 1, 1) := by decide +kernel
theorem dX3_foresee_30 : decode cX3_foresee 30 = .ok (.bipush 60, 2) := by decide +kernel
theorem dX3_foresee_32 : decode cX3_foresee 32 = .ok (.invokestatic 47, 3) := by decide +kernel
theorem dX3_foresee_35 : decode cX3_foresee 35 = .ok (.ifCond .ne 9, 3) := by decide +kernel
theorem dX3_foresee_38 : decode cX3_foresee 38 = .ok (.aload_n 0, 1) := by decide +kernel
theorem dX3_foresee_39 : decode cX3_foresee 39 = .ok (.iconst 2, 1) := by decide +kernel
theorem dX3_foresee_40 : decode cX3_foresee 40 = .ok (.invokevirtual 59, 3) := by decide +kernel
theorem dX3_foresee_43 : decode cX3_foresee 43 = .ok (.ireturn, 1) := by decide +kernel
theorem dX3_foresee_44 : decode cX3_foresee 44 = .ok (.aload_n 0, 1) := by decide +kernel
theorem dX3_foresee_45 : decode cX3_foresee 45 = .ok (.getfield 37, 3) := by decide +kernel
theorem dX3_foresee_48 : decode cX3_foresee 48 = .ok (.aload_n 0, 1) := by decide +kernel
theorem dX3_foresee_49 : decode cX3_foresee 49 = .ok (.getfield 33, 3) := by decide +kernel
theorem dX3_foresee_52 : decode cX3_foresee 52 = .ok (.invokevirtual 142, 3) := by decide +kernel
theorem dX3_foresee_55 : decode cX3_foresee 55 = .ok (.iconst 0, 1) := by decide +kernel
theorem dX3_foresee_56 : decode cX3_foresee 56 = .ok (.istore 4, 2) := by decide +kernel
theorem dX3_foresee_58 : decode cX3_foresee 58 = .ok (.iload 4, 2) := by decide +kernel
theorem dX3_foresee_60 : decode cX3_foresee 60 = .ok (.iload_n 2, 1) := by decide +kernel
theorem dX3_foresee_61 : decode cX3_foresee 61 = .ok (.if_icmp .ge 27, 3) := by decide +kernel
theorem dX3_foresee_64 : decode cX3_foresee 64 = .ok (.aload_n 0, 1) := by decide +kernel
theorem dX3_foresee_65 : decode cX3_foresee 65 = .ok (.getfield 37, 3) := by decide +kernel
theorem dX3_foresee_68 : decode cX3_foresee 68 = .ok (.iload_n 1, 1) := by decide +kernel
theorem dX3_foresee_69 : decode cX3_foresee 69 = .ok (.aload_n 0, 1) := by decide +kernel
theorem dX3_foresee_70 : decode cX3_foresee 70 = .ok (.getfield 33, 3) := by decide +kernel
theorem dX3_foresee_73 : decode cX3_foresee 73 = .ok (.getfield 128, 3) := by decide +kernel
theorem dX3_foresee_76 : decode cX3_foresee 76 = .ok (.iload 4, 2) := by decide +kernel
theorem dX3_foresee_78 : decode cX3_foresee 78 = .ok (.iadd, 1) := by decide +kernel
theorem dX3_foresee_79 : decode cX3_foresee 79 = .ok (.invokevirtual 134, 3) := by decide +kernel
theorem dX3_foresee_82 : decode cX3_foresee 82 = .ok (.iinc 4 1, 3) := by decide +kernel
theorem dX3_foresee_85 : decode cX3_foresee 85 = .ok (.goto (-27), 3) := by decide +kernel
theorem dX3_foresee_88 : decode cX3_foresee 88 = .ok (.iload_n 3, 1) := by decide +kernel
theorem dX3_foresee_89 : decode cX3_foresee 89 = .ok (.ifCond .ne 14, 3) := by decide +kernel
theorem dX3_foresee_92 : decode cX3_foresee 92 = .ok (.aload_n 0, 1) := by decide +kernel
theorem dX3_foresee_93 : decode cX3_foresee 93 = .ok (.getfield 37, 3) := by decide +kernel
theorem dX3_foresee_96 : decode cX3_foresee 96 = .ok (.iload_n 1, 1) := by decide +kernel
theorem dX3_foresee_97 : decode cX3_foresee 97 = .ok (.invokevirtual 109, 3) := by decide +kernel
theorem dX3_foresee_100 : decode cX3_foresee 100 = .ok (.goto 28, 3) := by decide +kernel
theorem dX3_foresee_103 : decode cX3_foresee 103 = .ok (.iload_n 3, 1) := by decide +kernel
theorem dX3_foresee_104 : decode cX3_foresee 104 = .ok (.iconst 1, 1) := by decide +kernel
theorem dX3_foresee_105 : decode cX3_foresee 105 = .ok (.if_icmp .ne 14, 3) := by decide +kernel
theorem dX3_foresee_108 : decode cX3_foresee 108 = .ok (.aload_n 0, 1) := by decide +kernel
theorem dX3_foresee_109 : decode cX3_foresee 109 = .ok (.getfield 37, 3) := by decide +kernel
theorem dX3_foresee_112 : decode cX3_foresee 112 = .ok (.iload_n 1, 1) := by decide +kernel
theorem dX3_foresee_113 : decode cX3_foresee 113 = .ok (.invokevirtual 115, 3) := by decide +kernel
theorem dX3_foresee_116 : decode cX3_foresee 116 = .ok (.goto 12, 3) := by decide +kernel
theorem dX3_foresee_119 : decode cX3_foresee 119 = .ok (.aload_n 0, 1) := by decide +kernel
theorem dX3_foresee_120 : decode cX3_foresee 120 = .ok (.getfield 37, 3) := by decide +kernel
theorem dX3_foresee_123 : decode cX3_foresee 123 = .ok (.getfield 63, 3) := by decide +kernel
theorem dX3_foresee_126 : decode cX3_foresee 126 = .ok (.iload_n 1, 1) := by decide +kernel
theorem dX3_foresee_127 : decode cX3_foresee 127 = .ok (.iaload, 1) := by decide +kernel
theorem dX3_foresee_128 : decode cX3_foresee 128 = .ok (.ireturn, 1) := by decide +kernel
set_option maxRecDepth 20000 in
theorem ggX3_left_X2_become : GoodIn wsX3_left wsX2_become := goodIn_r _ [7, 8, 9, 10, 11, 12, 13, 14, 15, 16, 17, 18, 6, 19, 20, 21, 22, 23, 82, 83, 84, 85, 86, 87, 88, 89, 90, 91] (by decide +kernel) (by decide +kernel)
set_option maxRecDepth 20000 in
theorem gX3_left_X2_become : GoodIn wsX3_left (wsV RX3 142 RX2 yX2_become wsX2_become) := goodIn_app (goodIn_of _ (by decide +kernel)) ggX3_left_X2_become
set_option maxRecDepth 20000 in
theorem ggX3_left_X2_mend : GoodIn wsX3_left wsX2_mend := goodIn_r _ [27, 15, 14, 28, 29, 30, 31, 13, 82, 83, 84, 85, 86, 87, 88, 89, 90, 91] (by decide +kernel) (by decide +kernel)
set_option maxRecDepth 20000 in
theorem gX3_left_X2_mend : GoodIn wsX3_left (wsV RX3 89 RX2 yX2_mend wsX2_mend) := goodIn_app (goodIn_of _ (by decide +kernel)) ggX3_left_X2_mend
set_option maxRecDepth 20000 in
theorem ggX3_left_X2_pass : GoodIn wsX3_left wsX2_pass := goodIn_r _ [35, 36, 12, 13, 37, 11, 15, 28, 29, 30, 31, 10, 9, 38, 39, 40, 41, 42, 43, 6, 44, 45, 46, 47, 48, 49, 50, 51, 52, 53, 54, 55, 56, 57, 58, 59, 60, 61, 62, 63, 14, 64, 65, 66, 67, 82, 83, 84, 85, 86, 87, 88, 89, 90, 91, 72, 73, 74, 75, 76, 77, 78, 79, 80, 81] (by decide +kernel) (by decide +kernel)
set_option maxRecDepth 20000 in
theorem gX3_left_X2_pass : GoodIn wsX3_left (wsV RX3 134 RX2 yX2_pass wsX2_pass) := goodIn_app (goodIn_of _ (by decide +kernel)) ggX3_left_X2_pass
set_option maxRecDepth 20000 in
theorem ggX3_left_X2_yealms : GoodIn wsX3_left wsX2_yealms := goodIn_r _ [71, 12, 82, 83, 84, 85, 86, 87, 88, 89, 90, 91] (by decide +kernel) (by decide +kernel)
set_option maxRecDepth 20000 in
theorem gX3_left_X2_yealms : GoodIn wsX3_left (wsV RX3 109 RX2 yX2_yealms wsX2_yealms) := goodIn_app (goodIn_of _ (by decide +kernel)) ggX3_left_X2_yealms
theorem dX3_left_0 : decode cX3_left 0 = .ok (.aload_n 0, 1) := by decide +kernel
theorem dX3_left_1 : decode cX3_left 1 = .ok (.getfield 37, 3) := by decide +kernel
theorem dX3_left_4 : decode cX3_left 4 = .ok (.aload_n 0, 1) := by decide +kernel
theorem dX3_left_5 : decode cX3_left 5 = .ok (.getfield 33, 3) := by decide +kernel
theorem dX3_left_8 : decode cX3_left 8 = .ok (.invokevirtual 142, 3) := by decide +kernel
theorem dX3_left_11 : decode cX3_left 11 = .ok (.iload_n 3, 1) := by decide +kernel
theorem dX3_left_12 : decode cX3_left 12 = .ok (.iconst (-1), 1) := by decide +kernel
theorem dX3_left_13 : decode cX3_left 13 = .ok (.if_icmp .eq 11, 3) := by decide +kernel
theorem dX3_left_16 : decode cX3_left 16 = .ok (.aload_n 0, 1) := by decide +kernel
theorem dX3_left_17 : decode cX3_left 17 = .ok (.getfield 37, 3) := by decide +kernel
theorem dX3_left_20 : decode cX3_left 20 = .ok (.iload_n 3, 1) := by decide +kernel
theorem dX3_left_21 : decode cX3_left 21 = .ok (.invokevirtual 89, 3) := by decide +kernel
theorem dX3_left_24 : decode cX3_left 24 = .ok (.iconst 0, 1) := by decide +kernel
theorem dX3_left_25 : decode cX3_left 25 = .ok (.istore 4, 2) := by decide +kernel
theorem dX3_left_27 : decode cX3_left 27 = .ok (.iload 4, 2) := by decide +kernel
theorem dX3_left_29 : decode cX3_left 29 = .ok (.iload_n 2, 1) := by decide +kernel
theorem dX3_left_30 : decode cX3_left 30 = .ok (.if_icmp .ge 27, 3) := by decide +kernel
theorem dX3_left_33 : decode cX3_left 33 = .ok (.aload_n 0, 1) := by decide +kernel
theorem dX3_left_34 : decode cX3_left 34 = .ok (.getfield 37, 3) := by decide +kernel
theorem dX3_left_37 : decode cX3_left 37 = .ok (.iload_n 1, 1) := by decide +kernel
theorem dX3_left_38 : decode cX3_left 38 = .ok (.aload_n 0, 1) := by decide +kernel
theorem dX3_left_39 : decode cX3_left 39 = .ok (.getfield 33, 3) := by decide +kernel
theorem dX3_left_42 : decode cX3_left 42 = .ok (.getfield 128, 3) := by decide +kernel
theorem dX3_left_45 : decode cX3_left 45 = .ok (.iload 4, 2) := by decide +kernel
theorem dX3_left_47 : decode cX3_left 47 = .ok (.iadd, 1) := by decide +kernel
theorem dX3_left_48 : decode cX3_left 48 = .ok (.invokevirtual 134, 3) := by decide +kernel
theorem dX3_left_51 : decode cX3_left 51 = .ok (.iinc 4 1, 3) := by decide +kernel
theorem dX3_left_54 : decode cX3_left 54 = .ok (.goto (-27), 3) := by decide +kernel
theorem dX3_left_57 : decode cX3_left 57 = .ok (.aload_n 0, 1) := by decide +kernel
theorem dX3_left_58 : decode cX3_left 58 = .ok (.getfield 37, 3) := by decide +kernel
theorem dX3_left_61 : decode cX3_left 61 = .ok (.iload_n 1, 1) := by decide +kernel
theorem dX3_left_62 : decode cX3_left 62 = .ok (.invokevirtual 109, 3) := by decide +kernel
theorem dX3_left_65 : decode cX3_left 65 = .ok (.ireturn, 1) := by decide +kernel
set_option maxRecDepth 20000 in
theorem ggX3_advise_X3_isRoof : GoodIn wsX3_advise wsX3_isRoof := goodIn_r _ [9, 10, 11, 12, 8, 13, 92, 93, 94, 95, 96, 97, 98, 99, 100, 101] (by decide +kernel) (by decide +kernel)
set_option maxRecDepth 20000 in
theorem gX3_advise_X3_isRoof : GoodIn wsX3_advise (wsV RX3 51 RX3 yX3_isRoof wsX3_isRoof) := goodIn_app (goodIn_of _ (by decide +kernel)) ggX3_advise_X3_isRoof
set_option maxRecDepth 20000 in
theorem ggX3_advise_X3_no : GoodIn wsX3_advise wsX3_no := goodIn_r _ [17, 1, 92, 93, 94, 95, 96, 97, 98, 99, 100, 101] (by decide +kernel) (by decide +kernel)
set_option maxRecDepth 20000 in
theorem gX3_advise_X3_no : GoodIn wsX3_advise (wsV RX3 59 RX3 yX3_no wsX3_no) := goodIn_app (goodIn_of _ (by decide +kernel)) ggX3_advise_X3_no
set_option maxRecDepth 20000 in
theorem ggX3_advise_X3_isIn : GoodIn wsX3_advise wsX3_isIn := goodIn_r _ [13] (by decide +kernel) (by decide +kernel)
set_option maxRecDepth 20000 in
theorem gX3_advise_X3_isIn : GoodIn wsX3_advise (va_wsS RX3 47 yX3_isIn wsX3_isIn) := goodIn_app (goodIn_of _ (by decide +kernel)) ggX3_advise_X3_isIn
set_option maxRecDepth 20000 in
theorem ggX3_advise_X3_left : GoodIn wsX3_advise wsX3_left := goodIn_r _ [21, 22, 4, 23, 24, 25, 26, 27, 28, 29, 30, 31, 32, 33, 34, 35, 36, 37, 38, 39, 40, 41, 42, 43, 44, 45, 46, 47, 48, 49, 50, 51, 52, 53, 54, 55, 56, 57, 58, 59, 60, 61, 62, 63, 64, 65, 8, 66, 67, 68, 69, 70, 71, 72, 73, 74, 75, 76, 77, 78, 79, 80, 81, 82, 83, 84, 85, 86, 87, 88, 89, 90, 92, 93, 94, 95, 96, 97, 98, 99, 100, 101, 102, 103, 104, 105, 106, 107, 108, 109, 110, 111] (by decide +kernel) (by decide +kernel)
set_option maxRecDepth 20000 in
theorem gX3_advise_X3_left : GoodIn wsX3_advise (wsV RX3 146 RX3 yX3_left wsX3_left) := goodIn_app (goodIn_of _ (by decide +kernel)) ggX3_advise_X3_left
set_option maxRecDepth 20000 in
theorem ggX3_advise_X3_cell : GoodIn wsX3_advise wsX3_cell := goodIn_r _ [66] (by decide +kernel) (by decide +kernel)
set_option maxRecDepth 20000 in
theorem gX3_advise_X3_cell : GoodIn wsX3_advise (va_wsS RX3 78 yX3_cell wsX3_cell) := goodIn_app (goodIn_of _ (by decide +kernel)) ggX3_advise_X3_cell
theorem dX3_advise_0 : decode cX3_advise 0 = .ok (.aload_n 0, 1) := by decide +kernel
theorem dX3_advise_1 : decode cX3_advise 1 = .ok (.iconst 0, 1) := by decide +kernel
theorem dX3_advise_2 : decode cX3_advise 2 = .ok (.putfield 40, 3) := by decide +kernel
theorem dX3_advise_5 : decode cX3_advise 5 = .ok (.aload_n 0, 1) := by decide +kernel
theorem dX3_advise_6 : decode cX3_advise 6 = .ok (.iload_n 1, 1) := by decide +kernel
theorem dX3_advise_7 : decode cX3_advise 7 = .ok (.invokevirtual 51, 3) := by decide +kernel
theorem dX3_advise_10 : decode cX3_advise 10 = .ok (.ifCond .ne 9, 3) := by decide +kernel
theorem dX3_advise_13 : decode cX3_advise 13 = .ok (.aload_n 0, 1) := by decide +kernel
theorem dX3_advise_14 : decode cX3_advise 14 = .ok (.iconst 1, 1) := by decide +kernel
theorem dX3_advise_15 : decode cX3_advise 15 = .ok (.invokevirtual 59, 3) := by decide +kernel
theorem dX3_advise_18 : decode cX3_advise 18 = .ok (.ireturn, 1) := by decide +kernel
theorem dX3_advise_19 : decode cX3_advise 19 = .ok (.iload_n 2, 1) := by decide +kernel
theorem dX3_advise_20 : decode cX3_advise 20 = .ok (.iconst 1, 1) := by decide +kernel
theorem dX3_advise_21 : decode cX3_advise 21 = .ok (.bipush 24, 2) := by decide +kernel
theorem dX3_advise_23 : decode cX3_advise 23 = .ok (.invokestatic 47, 3) := by decide +kernel
theorem dX3_advise_26 : decode cX3_advise 26 = .ok (.ifCond .ne 9, 3) := by decide +kernel
theorem dX3_advise_29 : decode cX3_advise 29 = .ok (.aload_n 0, 1) := by decide +kernel
theorem dX3_advise_30 : decode cX3_advise 30 = .ok (.iconst 2, 1) := by decide +kernel
theorem dX3_advise_31 : decode cX3_advise 31 = .ok (.invokevirtual 59, 3) := by decide +kernel
theorem dX3_advise_34 : decode cX3_advise 34 = .ok (.ireturn, 1) := by decide +kernel
theorem dX3_advise_35 : decode cX3_advise 35 = .ok (.aload_n 0, 1) := by decide +kernel
theorem dX3_advise_36 : decode cX3_advise 36 = .ok (.iload_n 1, 1) := by decide +kernel
theorem dX3_advise_37 : decode cX3_advise 37 = .ok (.iload_n 2, 1) := by decide +kernel
theorem dX3_advise_38 : decode cX3_advise 38 = .ok (.iconst (-1), 1) := by decide +kernel
theorem dX3_advise_39 : decode cX3_advise 39 = .ok (.invokevirtual 146, 3) := by decide +kernel
theorem dX3_advise_42 : decode cX3_advise 42 = .ok (.istore_n 3, 1) := by decide +kernel
theorem dX3_advise_43 : decode cX3_advise 43 = .ok (.iconst (-1), 1) := by decide +kernel
theorem dX3_advise_44 : decode cX3_advise 44 = .ok (.istore 4, 2) := by decide +kernel
theorem dX3_advise_46 : decode cX3_advise 46 = .ok (.iconst 0, 1) := by decide +kernel
theorem dX3_advise_47 : decode cX3_advise 47 = .ok (.istore 5, 2) := by decide +kernel
theorem dX3_advise_49 : decode cX3_advise 49 = .ok (.iload 5, 2) := by decide +kernel
theorem dX3_advise_51 : decode cX3_advise 51 = .ok (.aload_n 0, 1) := by decide +kernel
theorem dX3_advise_52 : decode cX3_advise 52 = .ok (.getfield 9, 3) := by decide +kernel
theorem dX3_advise_55 : decode cX3_advise 55 = .ok (.iload_n 1, 1) := by decide +kernel
theorem dX3_advise_56 : decode cX3_advise 56 = .ok (.iaload, 1) := by decide +kernel
theorem dX3_advise_57 : decode cX3_advise 57 = .ok (.aload_n 0, 1) := by decide +kernel
theorem dX3_advise_58 : decode cX3_advise 58 = .ok (.getfield 13, 3) := by decide +kernel
theorem dX3_advise_61 : decode cX3_advise 61 = .ok (.iload_n 1, 1) := by decide +kernel
theorem dX3_advise_62 : decode cX3_advise 62 = .ok (.iaload, 1) := by decide +kernel
theorem dX3_advise_63 : decode cX3_advise 63 = .ok (.imul, 1) := by decide +kernel
theorem dX3_advise_64 : decode cX3_advise 64 = .ok (.if_icmp .ge 76, 3) := by decide +kernel
theorem dX3_advise_67 : decode cX3_advise 67 = .ok (.iload_n 1, 1) := by decide +kernel
theorem dX3_advise_68 : decode cX3_advise 68 = .ok (.iload 5, 2) := by decide +kernel
theorem dX3_advise_70 : decode cX3_advise 70 = .ok (.aload_n 0, 1) := by decide +kernel
theorem dX3_advise_71 : decode cX3_advise 71 = .ok (.getfield 9, 3) := by decide +kernel
theorem dX3_advise_74 : decode cX3_advise 74 = .ok (.iload_n 1, 1) := by decide +kernel
theorem dX3_advise_75 : decode cX3_advise 75 = .ok (.iaload, 1) := by decide +kernel
theorem dX3_advise_76 : decode cX3_advise 76 = .ok (.idiv, 1) := by decide +kernel
theorem dX3_advise_77 : decode cX3_advise 77 = .ok (.iload 5, 2) := by decide +kernel
theorem dX3_advise_79 : decode cX3_advise 79 = .ok (.aload_n 0, 1) := by decide +kernel
theorem dX3_advise_80 : decode cX3_advise 80 = .ok (.getfield 9, 3) := by decide +kernel
theorem dX3_advise_83 : decode cX3_advise 83 = .ok (.iload_n 1, 1) := by decide +kernel
theorem dX3_advise_84 : decode cX3_advise 84 = .ok (.iaload, 1) := by decide +kernel
theorem dX3_advise_85 : decode cX3_advise 85 = .ok (.irem, 1) := by decide +kernel
theorem dX3_advise_86 : decode cX3_advise 86 = .ok (.invokestatic 78, 3) := by decide +kernel
theorem dX3_advise_89 : decode cX3_advise 89 = .ok (.istore 6, 2) := by decide +kernel
theorem dX3_advise_91 : decode cX3_advise 91 = .ok (.aload_n 0, 1) := by decide +kernel
theorem dX3_advise_92 : decode cX3_advise 92 = .ok (.getfield 33, 3) := by decide +kernel
theorem dX3_advise_95 : decode cX3_advise 95 = .ok (.getfield 86, 3) := by decide +kernel
theorem dX3_advise_98 : decode cX3_advise 98 = .ok (.iload 6, 2) := by decide +kernel
theorem dX3_advise_100 : decode cX3_advise 100 = .ok (.iaload, 1) := by decide +kernel
theorem dX3_advise_101 : decode cX3_advise 101 = .ok (.iconst (-1), 1) := by decide +kernel
theorem dX3_advise_102 : decode cX3_advise 102 = .ok (.if_icmp .ne 6, 3) := by decide +kernel
theorem dX3_advise_105 : decode cX3_advise 105 = .ok (.goto 29, 3) := by decide +kernel
theorem dX3_advise_108 : decode cX3_advise 108 = .ok (.aload_n 0, 1) := by decide +kernel
theorem dX3_advise_109 : decode cX3_advise 109 = .ok (.iload_n 1, 1) := by decide +kernel
theorem dX3_advise_110 : decode cX3_advise 110 = .ok (.iload_n 2, 1) := by decide +kernel
theorem dX3_advise_111 : decode cX3_advise 111 = .ok (.iload 6, 2) := by decide +kernel
theorem dX3_advise_113 : decode cX3_advise 113 = .ok (.invokevirtual 146, 3) := by decide +kernel
theorem dX3_advise_116 : decode cX3_advise 116 = .ok (.istore 7, 2) := by decide +kernel
theorem dX3_advise_118 : decode cX3_advise 118 = .ok (.iload 7, 2) := by decide +kernel
theorem dX3_advise_120 : decode cX3_advise 120 = .ok (.iload_n 3, 1) := by decide +kernel
theorem dX3_advise_121 : decode cX3_advise 121 = .ok (.if_icmp .gt 6, 3) := by decide +kernel
theorem dX3_advise_124 : decode cX3_advise 124 = .ok (.goto 10, 3) := by decide +kernel
theorem dX3_advise_127 : decode cX3_advise 127 = .ok (.iload 7, 2) := by decide +kernel
theorem dX3_advise_129 : decode cX3_advise 129 = .ok (.istore_n 3, 1) := by decide +kernel
theorem dX3_advise_130 : decode cX3_advise 130 = .ok (.iload 5, 2) := by decide +kernel
theorem dX3_advise_132 : decode cX3_advise 132 = .ok (.istore 4, 2) := by decide +kernel
theorem dX3_advise_134 : decode cX3_advise 134 = .ok (.iinc 5 1, 3) := by decide +kernel
theorem dX3_advise_137 : decode cX3_advise 137 = .ok (.goto (-88), 3) := by decide +kernel
theorem dX3_advise_140 : decode cX3_advise 140 = .ok (.iload 4, 2) := by decide +kernel
theorem dX3_advise_142 : decode cX3_advise 142 = .ok (.ireturn, 1) := by decide +kernel
set_option maxRecDepth 20000 in
theorem ggX3_needs_X3_isRoof : GoodIn wsX3_needs wsX3_isRoof := goodIn_r _ [9, 10, 11, 12, 8, 13, 27, 28, 29, 30, 31, 32, 33, 34, 35, 36] (by decide +kernel) (by decide +kernel)
set_option maxRecDepth 20000 in
theorem gX3_needs_X3_isRoof : GoodIn wsX3_needs (wsV RX3 51 RX3 yX3_isRoof wsX3_isRoof) := goodIn_app (goodIn_of _ (by decide +kernel)) ggX3_needs_X3_isRoof
set_option maxRecDepth 20000 in
theorem ggX3_needs_X3_no : GoodIn wsX3_needs wsX3_no := goodIn_r _ [17, 1, 27, 28, 29, 30, 31, 32, 33, 34, 35, 36] (by decide +kernel) (by decide +kernel)
set_option maxRecDepth 20000 in
theorem gX3_needs_X3_no : GoodIn wsX3_needs (wsV RX3 59 RX3 yX3_no wsX3_no) := goodIn_app (goodIn_of _ (by decide +kernel)) ggX3_needs_X3_no
set_option maxRecDepth 20000 in
theorem ggX3_needs_X3_isIn : GoodIn wsX3_needs wsX3_isIn := goodIn_r _ [13] (by decide +kernel) (by decide +kernel)
set_option maxRecDepth 20000 in
theorem gX3_needs_X3_isIn : GoodIn wsX3_needs (va_wsS RX3 47 yX3_isIn wsX3_isIn) := goodIn_app (goodIn_of _ (by decide +kernel)) ggX3_needs_X3_isIn
set_option maxRecDepth 20000 in
theorem ggX3_needs_X2_yealms : GoodIn wsX3_needs wsX2_yealms := goodIn_r _ [22, 23, 37, 38, 39, 40, 41, 42, 43, 44, 45, 46] (by decide +kernel) (by decide +kernel)
set_option maxRecDepth 20000 in
theorem gX3_needs_X2_yealms : GoodIn wsX3_needs (wsV RX3 109 RX2 yX2_yealms wsX2_yealms) := goodIn_app (goodIn_of _ (by decide +kernel)) ggX3_needs_X2_yealms
set_option maxRecDepth 20000 in
theorem ggX3_needs_X3_bundles : GoodIn wsX3_needs wsX3_bundles := goodIn_r _ [26] (by decide +kernel) (by decide +kernel)
set_option maxRecDepth 20000 in
theorem gX3_needs_X3_bundles : GoodIn wsX3_needs (va_wsS RX3 75 yX3_bundles wsX3_bundles) := goodIn_app (goodIn_of _ (by decide +kernel)) ggX3_needs_X3_bundles
theorem dX3_needs_0 : decode cX3_needs 0 = .ok (.aload_n 0, 1) := by decide +kernel
theorem dX3_needs_1 : decode cX3_needs 1 = .ok (.iconst 0, 1) := by decide +kernel
theorem dX3_needs_2 : decode cX3_needs 2 = .ok (.putfield 40, 3) := by decide +kernel
theorem dX3_needs_5 : decode cX3_needs 5 = .ok (.aload_n 0, 1) := by decide +kernel
theorem dX3_needs_6 : decode cX3_needs 6 = .ok (.iload_n 1, 1) := by decide +kernel
theorem dX3_needs_7 : decode cX3_needs 7 = .ok (.invokevirtual 51, 3) := by decide +kernel
theorem dX3_needs_10 : decode cX3_needs 10 = .ok (.ifCond .ne 9, 3) := by decide +kernel
theorem dX3_needs_13 : decode cX3_needs 13 = .ok (.aload_n 0, 1) := by decide +kernel
theorem dX3_needs_14 : decode cX3_needs 14 = .ok (.iconst 1, 1) := by decide +kernel
theorem dX3_needs_15 : decode cX3_needs 15 = .ok (.invokevirtual 59, 3) := by decide +kernel
theorem dX3_needs_18 : decode cX3_needs 18 = .ok (.ireturn, 1) := by decide +kernel
theorem dX3_needs_19 : decode cX3_needs 19 = .ok (.iload_n 2, 1) := by decide +kernel
theorem dX3_needs_20 : decode cX3_needs 20 = .ok (.iconst 1, 1) := by decide +kernel
theorem dX3_needs_21 : decode cX3_needs 21 = .ok (.bipush 40, 2) := by decide +kernel
theorem dX3_needs_23 : decode cX3_needs 23 = .ok (.invokestatic 47, 3) := by decide +kernel
theorem dX3_needs_26 : decode cX3_needs 26 = .ok (.ifCond .ne 9, 3) := by decide +kernel
theorem dX3_needs_29 : decode cX3_needs 29 = .ok (.aload_n 0, 1) := by decide +kernel
theorem dX3_needs_30 : decode cX3_needs 30 = .ok (.iconst 2, 1) := by decide +kernel
theorem dX3_needs_31 : decode cX3_needs 31 = .ok (.invokevirtual 59, 3) := by decide +kernel
theorem dX3_needs_34 : decode cX3_needs 34 = .ok (.ireturn, 1) := by decide +kernel
theorem dX3_needs_35 : decode cX3_needs 35 = .ok (.aload_n 0, 1) := by decide +kernel
theorem dX3_needs_36 : decode cX3_needs 36 = .ok (.getfield 9, 3) := by decide +kernel
theorem dX3_needs_39 : decode cX3_needs 39 = .ok (.iload_n 1, 1) := by decide +kernel
theorem dX3_needs_40 : decode cX3_needs 40 = .ok (.iaload, 1) := by decide +kernel
theorem dX3_needs_41 : decode cX3_needs 41 = .ok (.aload_n 0, 1) := by decide +kernel
theorem dX3_needs_42 : decode cX3_needs 42 = .ok (.getfield 13, 3) := by decide +kernel
theorem dX3_needs_45 : decode cX3_needs 45 = .ok (.iload_n 1, 1) := by decide +kernel
theorem dX3_needs_46 : decode cX3_needs 46 = .ok (.iaload, 1) := by decide +kernel
theorem dX3_needs_47 : decode cX3_needs 47 = .ok (.imul, 1) := by decide +kernel
theorem dX3_needs_48 : decode cX3_needs 48 = .ok (.aload_n 0, 1) := by decide +kernel
theorem dX3_needs_49 : decode cX3_needs 49 = .ok (.getfield 33, 3) := by decide +kernel
theorem dX3_needs_52 : decode cX3_needs 52 = .ok (.iload_n 1, 1) := by decide +kernel
theorem dX3_needs_53 : decode cX3_needs 53 = .ok (.invokevirtual 109, 3) := by decide +kernel
theorem dX3_needs_56 : decode cX3_needs 56 = .ok (.isub, 1) := by decide +kernel
theorem dX3_needs_57 : decode cX3_needs 57 = .ok (.iload_n 2, 1) := by decide +kernel
theorem dX3_needs_58 : decode cX3_needs 58 = .ok (.invokestatic 75, 3) := by decide +kernel
theorem dX3_needs_61 : decode cX3_needs 61 = .ok (.imul, 1) := by decide +kernel
theorem dX3_needs_62 : decode cX3_needs 62 = .ok (.ireturn, 1) := by decide +kernel
set_option maxRecDepth 20000 in
theorem ggX3_mean_X2_thickness : GoodIn wsX3_mean wsX2_thickness := goodIn_r _ [8, 9, 25, 26, 27, 28, 29, 30, 31, 32, 33, 34] (by decide +kernel) (by decide +kernel)
set_option maxRecDepth 20000 in
theorem gX3_mean_X2_thickness : GoodIn wsX3_mean (wsV RX3 112 RX2 yX2_thickness wsX2_thickness) := goodIn_app (goodIn_of _ (by decide +kernel)) ggX3_mean_X2_thickness
set_option maxRecDepth 20000 in
theorem ggX3_mean_X2_yealms : GoodIn wsX3_mean wsX2_yealms := goodIn_r _ [13, 14, 25, 26, 27, 28, 29, 30, 31, 32, 33, 34] (by decide +kernel) (by decide +kernel)
set_option maxRecDepth 20000 in
theorem gX3_mean_X2_yealms : GoodIn wsX3_mean (wsV RX3 109 RX2 yX2_yealms wsX2_yealms) := goodIn_app (goodIn_of _ (by decide +kernel)) ggX3_mean_X2_yealms
theorem dX3_mean_0 : decode cX3_mean 0 = .ok (.aload_n 0, 1) := by decide +kernel
theorem dX3_mean_1 : decode cX3_mean 1 = .ok (.iconst 0, 1) := by decide +kernel
theorem dX3_mean_2 : decode cX3_mean 2 = .ok (.putfield 40, 3) := by decide +kernel
theorem dX3_mean_5 : decode cX3_mean 5 = .ok (.iconst 0, 1) := by decide +kernel
theorem dX3_mean_6 : decode cX3_mean 6 = .ok (.istore_n 1, 1) := by decide +kernel
theorem dX3_mean_7 : decode cX3_mean 7 = .ok (.iconst 0, 1) := by decide +kernel
theorem dX3_mean_8 : decode cX3_mean 8 = .ok (.istore_n 2, 1) := by decide +kernel
theorem dX3_mean_9 : decode cX3_mean 9 = .ok (.iconst 0, 1) := by decide +kernel
theorem dX3_mean_10 : decode cX3_mean 10 = .ok (.istore_n 3, 1) := by decide +kernel
theorem dX3_mean_11 : decode cX3_mean 11 = .ok (.iload_n 3, 1) := by decide +kernel
theorem dX3_mean_12 : decode cX3_mean 12 = .ok (.aload_n 0, 1) := by decide +kernel
theorem dX3_mean_13 : decode cX3_mean 13 = .ok (.getfield 44, 3) := by decide +kernel
theorem dX3_mean_16 : decode cX3_mean 16 = .ok (.if_icmp .ge 31, 3) := by decide +kernel
theorem dX3_mean_19 : decode cX3_mean 19 = .ok (.iload_n 1, 1) := by decide +kernel
theorem dX3_mean_20 : decode cX3_mean 20 = .ok (.aload_n 0, 1) := by decide +kernel
theorem dX3_mean_21 : decode cX3_mean 21 = .ok (.getfield 33, 3) := by decide +kernel
theorem dX3_mean_24 : decode cX3_mean 24 = .ok (.iload_n 3, 1) := by decide +kernel
theorem dX3_mean_25 : decode cX3_mean 25 = .ok (.invokevirtual 112, 3) := by decide +kernel
theorem dX3_mean_28 : decode cX3_mean 28 = .ok (.iadd, 1) := by decide +kernel
theorem dX3_mean_29 : decode cX3_mean 29 = .ok (.istore_n 1, 1) := by decide +kernel
theorem dX3_mean_30 : decode cX3_mean 30 = .ok (.iload_n 2, 1) := by decide +kernel
theorem dX3_mean_31 : decode cX3_mean 31 = .ok (.aload_n 0, 1) := by decide +kernel
theorem dX3_mean_32 : decode cX3_mean 32 = .ok (.getfield 33, 3) := by decide +kernel
theorem dX3_mean_35 : decode cX3_mean 35 = .ok (.iload_n 3, 1) := by decide +kernel
theorem dX3_mean_36 : decode cX3_mean 36 = .ok (.invokevirtual 109, 3) := by decide +kernel
theorem dX3_mean_39 : decode cX3_mean 39 = .ok (.iadd, 1) := by decide +kernel
theorem dX3_mean_40 : decode cX3_mean 40 = .ok (.istore_n 2, 1) := by decide +kernel
theorem dX3_mean_41 : decode cX3_mean 41 = .ok (.iinc 3 1, 3) := by decide +kernel
theorem dX3_mean_44 : decode cX3_mean 44 = .ok (.goto (-33), 3) := by decide +kernel
theorem dX3_mean_47 : decode cX3_mean 47 = .ok (.iload_n 2, 1) := by decide +kernel
theorem dX3_mean_48 : decode cX3_mean 48 = .ok (.ifCond .ne 7, 3) := by decide +kernel
theorem dX3_mean_51 : decode cX3_mean 51 = .ok (.dconst 0, 1) := by decide +kernel
theorem dX3_mean_52 : decode cX3_mean 52 = .ok (.goto 8, 3) := by decide +kernel
theorem dX3_mean_55 : decode cX3_mean 55 = .ok (.iload_n 1, 1) := by decide +kernel
theorem dX3_mean_56 : decode cX3_mean 56 = .ok (.i2d, 1) := by decide +kernel
theorem dX3_mean_57 : decode cX3_mean 57 = .ok (.iload_n 2, 1) := by decide +kernel
theorem dX3_mean_58 : decode cX3_mean 58 = .ok (.i2d, 1) := by decide +kernel
theorem dX3_mean_59 : decode cX3_mean 59 = .ok (.ddiv, 1) := by decide +kernel
theorem dX3_mean_60 : decode cX3_mean 60 = .ok (.dreturn, 1) := by decide +kernel
set_option maxRecDepth 20000 in
theorem ggX3_digest_X3_counted : GoodIn wsX3_digest wsX3_counted := goodIn_r _ [13, 6, 14, 15, 16, 4, 5, 17, 18, 19, 20, 21, 22, 23, 24, 25, 26, 27, 28, 29, 12, 30, 31, 32, 33, 34, 53, 54, 55, 56, 57, 58, 59, 60, 61, 62, 63, 64, 65, 66, 67, 68, 69, 70, 71, 72] (by decide +kernel) (by decide +kernel)
set_option maxRecDepth 20000 in
theorem gX3_digest_X3_counted : GoodIn wsX3_digest (wsV RX3 131 RX3 yX3_counted wsX3_counted) := goodIn_app (goodIn_of _ (by decide +kernel)) ggX3_digest_X3_counted
set_option maxRecDepth 20000 in
theorem ggX3_digest_X3_roofTold : GoodIn wsX3_digest wsX3_roofTold := goodIn_r _ [38, 15, 8, 7, 39, 14, 17, 18, 19, 20, 21, 22, 40, 41, 42, 43, 28, 23, 24, 25, 26, 27, 29, 12, 30, 31, 32, 33, 34, 53, 54, 55, 56, 57, 58, 59, 60, 61, 62, 63, 64, 65, 66, 67, 68, 69, 70, 71, 72] (by decide +kernel) (by decide +kernel)
set_option maxRecDepth 20000 in
theorem gX3_digest_X3_roofTold : GoodIn wsX3_digest (wsV RX3 124 RX3 yX3_roofTold wsX3_roofTold) := goodIn_app (goodIn_of _ (by decide +kernel)) ggX3_digest_X3_roofTold
set_option maxRecDepth 20000 in
theorem ggX3_digest_X3_yealmTold : GoodIn wsX3_digest wsX3_yealmTold := goodIn_r _ [47, 15, 14, 48, 29, 12, 30, 49, 50, 51, 20, 52, 27, 31, 32, 33, 34, 22, 53, 54, 55, 56, 57, 58, 59, 60, 61, 62, 63, 64, 65, 66, 67, 68, 69, 70, 71, 72] (by decide +kernel) (by decide +kernel)
set_option maxRecDepth 20000 in
theorem gX3_digest_X3_yealmTold : GoodIn wsX3_digest (wsV RX3 105 RX3 yX3_yealmTold wsX3_yealmTold) := goodIn_app (goodIn_of _ (by decide +kernel)) ggX3_digest_X3_yealmTold
theorem dX3_digest_0 : decode cX3_digest 0 = .ok (.aload_n 0, 1) := by decide +kernel
theorem dX3_digest_1 : decode cX3_digest 1 = .ok (.iconst 0, 1) := by decide +kernel
theorem dX3_digest_2 : decode cX3_digest 2 = .ok (.putfield 40, 3) := by decide +kernel
theorem dX3_digest_5 : decode cX3_digest 5 = .ok (.ldc2_w 149, 3) := by decide +kernel
theorem dX3_digest_8 : decode cX3_digest 8 = .ok (.lstore_n 1, 1) := by decide +kernel
theorem dX3_digest_9 : decode cX3_digest 9 = .ok (.iconst 0, 1) := by decide +kernel
theorem dX3_digest_10 : decode cX3_digest 10 = .ok (.istore_n 3, 1) := by decide +kernel
theorem dX3_digest_11 : decode cX3_digest 11 = .ok (.iload_n 3, 1) := by decide +kernel
theorem dX3_digest_12 : decode cX3_digest 12 = .ok (.bipush 8, 2) := by decide +kernel
theorem dX3_digest_14 : decode cX3_digest 14 = .ok (.if_icmp .gt 22, 3) := by decide +kernel
theorem dX3_digest_17 : decode cX3_digest 17 = .ok (.lload_n 1, 1) := by decide +kernel
theorem dX3_digest_18 : decode cX3_digest 18 = .ok (.ldc2_w 151, 3) := by decide +kernel
theorem dX3_digest_21 : decode cX3_digest 21 = .ok (.lmul, 1) := by decide +kernel
theorem dX3_digest_22 : decode cX3_digest 22 = .ok (.aload_n 0, 1) := by decide +kernel
theorem dX3_digest_23 : decode cX3_digest 23 = .ok (.iload_n 3, 1) := by decide +kernel
theorem dX3_digest_24 : decode cX3_digest 24 = .ok (.invokevirtual 131, 3) := by decide +kernel
theorem dX3_digest_27 : decode cX3_digest 27 = .ok (.i2l, 1) := by decide +kernel
theorem dX3_digest_28 : decode cX3_digest 28 = .ok (.ladd, 1) := by decide +kernel
theorem dX3_digest_29 : decode cX3_digest 29 = .ok (.lstore_n 1, 1) := by decide +kernel
theorem dX3_digest_30 : decode cX3_digest 30 = .ok (.iinc 3 1, 3) := by decide +kernel
theorem dX3_digest_33 : decode cX3_digest 33 = .ok (.goto (-22), 3) := by decide +kernel
theorem dX3_digest_36 : decode cX3_digest 36 = .ok (.iconst 0, 1) := by decide +kernel
theorem dX3_digest_37 : decode cX3_digest 37 = .ok (.istore_n 3, 1) := by decide +kernel
theorem dX3_digest_38 : decode cX3_digest 38 = .ok (.iload_n 3, 1) := by decide +kernel
theorem dX3_digest_39 : decode cX3_digest 39 = .ok (.bipush 12, 2) := by decide +kernel
theorem dX3_digest_41 : decode cX3_digest 41 = .ok (.if_icmp .ge 34, 3) := by decide +kernel
theorem dX3_digest_44 : decode cX3_digest 44 = .ok (.lload_n 1, 1) := by decide +kernel
theorem dX3_digest_45 : decode cX3_digest 45 = .ok (.ldc2_w 151, 3) := by decide +kernel
theorem dX3_digest_48 : decode cX3_digest 48 = .ok (.lmul, 1) := by decide +kernel
theorem dX3_digest_49 : decode cX3_digest 49 = .ok (.bipush 10, 2) := by decide +kernel
theorem dX3_digest_51 : decode cX3_digest 51 = .ok (.aload_n 0, 1) := by decide +kernel
theorem dX3_digest_52 : decode cX3_digest 52 = .ok (.getfield 19, 3) := by decide +kernel
theorem dX3_digest_55 : decode cX3_digest 55 = .ok (.iload_n 3, 1) := by decide +kernel
theorem dX3_digest_56 : decode cX3_digest 56 = .ok (.iaload, 1) := by decide +kernel
theorem dX3_digest_57 : decode cX3_digest 57 = .ok (.imul, 1) := by decide +kernel
theorem dX3_digest_58 : decode cX3_digest 58 = .ok (.i2l, 1) := by decide +kernel
theorem dX3_digest_59 : decode cX3_digest 59 = .ok (.ladd, 1) := by decide +kernel
theorem dX3_digest_60 : decode cX3_digest 60 = .ok (.aload_n 0, 1) := by decide +kernel
theorem dX3_digest_61 : decode cX3_digest 61 = .ok (.getfield 22, 3) := by decide +kernel
theorem dX3_digest_64 : decode cX3_digest 64 = .ok (.iload_n 3, 1) := by decide +kernel
theorem dX3_digest_65 : decode cX3_digest 65 = .ok (.iaload, 1) := by decide +kernel
theorem dX3_digest_66 : decode cX3_digest 66 = .ok (.i2l, 1) := by decide +kernel
theorem dX3_digest_67 : decode cX3_digest 67 = .ok (.ladd, 1) := by decide +kernel
theorem dX3_digest_68 : decode cX3_digest 68 = .ok (.lstore_n 1, 1) := by decide +kernel
theorem dX3_digest_69 : decode cX3_digest 69 = .ok (.iinc 3 1, 3) := by decide +kernel
theorem dX3_digest_72 : decode cX3_digest 72 = .ok (.goto (-34), 3) := by decide +kernel
theorem dX3_digest_75 : decode cX3_digest 75 = .ok (.iconst 0, 1) := by decide +kernel
theorem dX3_digest_76 : decode cX3_digest 76 = .ok (.istore_n 3, 1) := by decide +kernel
theorem dX3_digest_77 : decode cX3_digest 77 = .ok (.iload_n 3, 1) := by decide +kernel
theorem dX3_digest_78 : decode cX3_digest 78 = .ok (.aload_n 0, 1) := by decide +kernel
theorem dX3_digest_79 : decode cX3_digest 79 = .ok (.getfield 44, 3) := by decide +kernel
theorem dX3_digest_82 : decode cX3_digest 82 = .ok (.if_icmp .ge 114, 3) := by decide +kernel
theorem dX3_digest_85 : decode cX3_digest 85 = .ok (.iconst 0, 1) := by decide +kernel
theorem dX3_digest_86 : decode cX3_digest 86 = .ok (.istore 4, 2) := by decide +kernel
theorem dX3_digest_88 : decode cX3_digest 88 = .ok (.iload 4, 2) := by decide +kernel
theorem dX3_digest_90 : decode cX3_digest 90 = .ok (.bipush 8, 2) := by decide +kernel
theorem dX3_digest_92 : decode cX3_digest 92 = .ok (.if_icmp .gt 24, 3) := by decide +kernel
theorem dX3_digest_95 : decode cX3_digest 95 = .ok (.lload_n 1, 1) := by decide +kernel
theorem dX3_digest_96 : decode cX3_digest 96 = .ok (.ldc2_w 151, 3) := by decide +kernel
theorem dX3_digest_99 : decode cX3_digest 99 = .ok (.lmul, 1) := by decide +kernel
theorem dX3_digest_100 : decode cX3_digest 100 = .ok (.aload_n 0, 1) := by decide +kernel
theorem dX3_digest_101 : decode cX3_digest 101 = .ok (.iload_n 3, 1) := by decide +kernel
theorem dX3_digest_102 : decode cX3_digest 102 = .ok (.iload 4, 2) := by decide +kernel
theorem dX3_digest_104 : decode cX3_digest 104 = .ok (.invokevirtual 124, 3) := by decide +kernel
theorem dX3_digest_107 : decode cX3_digest 107 = .ok (.i2l, 1) := by decide +kernel
theorem dX3_digest_108 : decode cX3_digest 108 = .ok (.ladd, 1) := by decide +kernel
theorem dX3_digest_109 : decode cX3_digest 109 = .ok (.lstore_n 1, 1) := by decide +kernel
theorem dX3_digest_110 : decode cX3_digest 110 = .ok (.iinc 4 1, 3) := by decide +kernel
theorem dX3_digest_113 : decode cX3_digest 113 = .ok (.goto (-25), 3) := by decide +kernel
theorem dX3_digest_116 : decode cX3_digest 116 = .ok (.iconst 0, 1) := by decide +kernel
theorem dX3_digest_117 : decode cX3_digest 117 = .ok (.istore 4, 2) := by decide +kernel
theorem dX3_digest_119 : decode cX3_digest 119 = .ok (.iload 4, 2) := by decide +kernel
theorem dX3_digest_121 : decode cX3_digest 121 = .ok (.aload_n 0, 1) := by decide +kernel
theorem dX3_digest_122 : decode cX3_digest 122 = .ok (.getfield 13, 3) := by decide +kernel
theorem dX3_digest_125 : decode cX3_digest 125 = .ok (.iload_n 3, 1) := by decide +kernel
theorem dX3_digest_126 : decode cX3_digest 126 = .ok (.iaload, 1) := by decide +kernel
theorem dX3_digest_127 : decode cX3_digest 127 = .ok (.if_icmp .ge 63, 3) := by decide +kernel
theorem dX3_digest_130 : decode cX3_digest 130 = .ok (.iconst 0, 1) := by decide +kernel
theorem dX3_digest_131 : decode cX3_digest 131 = .ok (.istore 5, 2) := by decide +kernel
theorem dX3_digest_133 : decode cX3_digest 133 = .ok (.iload 5, 2) := by decide +kernel
theorem dX3_digest_135 : decode cX3_digest 135 = .ok (.aload_n 0, 1) := by decide +kernel
theorem dX3_digest_136 : decode cX3_digest 136 = .ok (.getfield 9, 3) := by decide +kernel
theorem dX3_digest_139 : decode cX3_digest 139 = .ok (.iload_n 3, 1) := by decide +kernel
theorem dX3_digest_140 : decode cX3_digest 140 = .ok (.iaload, 1) := by decide +kernel
theorem dX3_digest_141 : decode cX3_digest 141 = .ok (.if_icmp .ge 43, 3) := by decide +kernel
theorem dX3_digest_144 : decode cX3_digest 144 = .ok (.iconst 0, 1) := by decide +kernel
theorem dX3_digest_145 : decode cX3_digest 145 = .ok (.istore 6, 2) := by decide +kernel
theorem dX3_digest_147 : decode cX3_digest 147 = .ok (.iload 6, 2) := by decide +kernel
theorem dX3_digest_149 : decode cX3_digest 149 = .ok (.iconst 5, 1) := by decide +kernel
theorem dX3_digest_150 : decode cX3_digest 150 = .ok (.if_icmp .gt 28, 3) := by decide +kernel
theorem dX3_digest_153 : decode cX3_digest 153 = .ok (.lload_n 1, 1) := by decide +kernel
theorem dX3_digest_154 : decode cX3_digest 154 = .ok (.ldc2_w 151, 3) := by decide +kernel
theorem dX3_digest_157 : decode cX3_digest 157 = .ok (.lmul, 1) := by decide +kernel
theorem dX3_digest_158 : decode cX3_digest 158 = .ok (.aload_n 0, 1) := by decide +kernel
theorem dX3_digest_159 : decode cX3_digest 159 = .ok (.iload_n 3, 1) := by decide +kernel
theorem dX3_digest_160 : decode cX3_digest 160 = .ok (.iload 4, 2) := by decide +kernel
theorem dX3_digest_162 : decode cX3_digest 162 = .ok (.iload 5, 2) := by decide +kernel
theorem dX3_digest_164 : decode cX3_digest 164 = .ok (.iload 6, 2) := by decide +kernel
theorem dX3_digest_166 : decode cX3_digest 166 = .ok (.invokevirtual 105, 3) := by decide +kernel
theorem dX3_digest_169 : decode cX3_digest 169 = .ok (.i2l, 1) := by decide +kernel
theorem dX3_digest_170 : decode cX3_digest 170 = .ok (.ladd, 1) := by decide +kernel
theorem dX3_digest_171 : decode cX3_digest 171 = .ok (.lstore_n 1, 1) := by decide +kernel
theorem dX3_digest_172 : decode cX3_digest 172 = .ok (.iinc 6 1, 3) := by decide +kernel
theorem dX3_digest_175 : decode cX3_digest 175 = .ok (.goto (-28), 3) := by decide +kernel
theorem dX3_digest_178 : decode cX3_digest 178 = .ok (.iinc 5 1, 3) := by decide +kernel
theorem dX3_digest_181 : decode cX3_digest 181 = .ok (.goto (-48), 3) := by decide +kernel
theorem dX3_digest_184 : decode cX3_digest 184 = .ok (.iinc 4 1, 3) := by decide +kernel
theorem dX3_digest_187 : decode cX3_digest 187 = .ok (.goto (-68), 3) := by decide +kernel
theorem dX3_digest_190 : decode cX3_digest 190 = .ok (.iinc 3 1, 3) := by decide +kernel
theorem dX3_digest_193 : decode cX3_digest 193 = .ok (.goto (-116), 3) := by decide +kernel
theorem dX3_digest_196 : decode cX3_digest 196 = .ok (.lload_n 1, 1) := by decide +kernel
theorem dX3_digest_197 : decode cX3_digest 197 = .ok (.lreturn, 1) := by decide +kernel
