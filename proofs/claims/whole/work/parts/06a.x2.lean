theorem dX2_init_0 : decode cX2_init 0 = .ok (.aload_n 0, 1) := by decide +kernel
theorem dX2_init_1 : decode cX2_init 1 = .ok (.aload_n 1, 1) := by decide +kernel
theorem dX2_init_2 : decode cX2_init 2 = .ok (.putfield 3, 3) := by decide +kernel
theorem dX2_init_5 : decode cX2_init 5 = .ok (.aload_n 0, 1) := by decide +kernel
theorem dX2_init_6 : decode cX2_init 6 = .ok (.invokespecial 9, 3) := by decide +kernel
theorem dX2_init_9 : decode cX2_init 9 = .ok (.aload_n 0, 1) := by decide +kernel
theorem dX2_init_10 : decode cX2_init 10 = .ok (.bipush 6, 2) := by decide +kernel
theorem dX2_init_12 : decode cX2_init 12 = .ok (.newarray .int, 2) := by decide +kernel
theorem dX2_init_14 : decode cX2_init 14 = .ok (.putfield 15, 3) := by decide +kernel
theorem dX2_init_17 : decode cX2_init 17 = .ok (.aload_n 0, 1) := by decide +kernel
theorem dX2_init_18 : decode cX2_init 18 = .ok (.bipush 6, 2) := by decide +kernel
theorem dX2_init_20 : decode cX2_init 20 = .ok (.newarray .int, 2) := by decide +kernel
theorem dX2_init_22 : decode cX2_init 22 = .ok (.putfield 19, 3) := by decide +kernel
theorem dX2_init_25 : decode cX2_init 25 = .ok (.aload_n 0, 1) := by decide +kernel
theorem dX2_init_26 : decode cX2_init 26 = .ok (.bipush 6, 2) := by decide +kernel
theorem dX2_init_28 : decode cX2_init 28 = .ok (.newarray .int, 2) := by decide +kernel
theorem dX2_init_30 : decode cX2_init 30 = .ok (.putfield 22, 3) := by decide +kernel
theorem dX2_init_33 : decode cX2_init 33 = .ok (.aload_n 0, 1) := by decide +kernel
theorem dX2_init_34 : decode cX2_init 34 = .ok (.sipush 360, 3) := by decide +kernel
theorem dX2_init_37 : decode cX2_init 37 = .ok (.newarray .int, 2) := by decide +kernel
theorem dX2_init_39 : decode cX2_init 39 = .ok (.putfield 25, 3) := by decide +kernel
theorem dX2_init_42 : decode cX2_init 42 = .ok (.aload_n 0, 1) := by decide +kernel
theorem dX2_init_43 : decode cX2_init 43 = .ok (.sipush 360, 3) := by decide +kernel
theorem dX2_init_46 : decode cX2_init 46 = .ok (.newarray .int, 2) := by decide +kernel
theorem dX2_init_48 : decode cX2_init 48 = .ok (.putfield 28, 3) := by decide +kernel
theorem dX2_init_51 : decode cX2_init 51 = .ok (.aload_n 0, 1) := by decide +kernel
theorem dX2_init_52 : decode cX2_init 52 = .ok (.sipush 360, 3) := by decide +kernel
theorem dX2_init_55 : decode cX2_init 55 = .ok (.newarray .int, 2) := by decide +kernel
theorem dX2_init_57 : decode cX2_init 57 = .ok (.putfield 31, 3) := by decide +kernel
theorem dX2_init_60 : decode cX2_init 60 = .ok (.aload_n 0, 1) := by decide +kernel
theorem dX2_init_61 : decode cX2_init 61 = .ok (.sipush 360, 3) := by decide +kernel
theorem dX2_init_64 : decode cX2_init 64 = .ok (.newarray .int, 2) := by decide +kernel
theorem dX2_init_66 : decode cX2_init 66 = .ok (.putfield 34, 3) := by decide +kernel
theorem dX2_init_69 : decode cX2_init 69 = .ok (.aload_n 0, 1) := by decide +kernel
theorem dX2_init_70 : decode cX2_init 70 = .ok (.bipush 60, 2) := by decide +kernel
theorem dX2_init_72 : decode cX2_init 72 = .ok (.newarray .boolean, 2) := by decide +kernel
theorem dX2_init_74 : decode cX2_init 74 = .ok (.putfield 37, 3) := by decide +kernel
theorem dX2_init_77 : decode cX2_init 77 = .ok (.iconst 0, 1) := by decide +kernel
theorem dX2_init_78 : decode cX2_init 78 = .ok (.istore_n 2, 1) := by decide +kernel
theorem dX2_init_79 : decode cX2_init 79 = .ok (.iload_n 2, 1) := by decide +kernel
theorem dX2_init_80 : decode cX2_init 80 = .ok (.aload_n 0, 1) := by decide +kernel
theorem dX2_init_81 : decode cX2_init 81 = .ok (.getfield 25, 3) := by decide +kernel
theorem dX2_init_84 : decode cX2_init 84 = .ok (.arraylength, 1) := by decide +kernel
theorem dX2_init_85 : decode cX2_init 85 = .ok (.if_icmp .ge 16, 3) := by decide +kernel
theorem dX2_init_88 : decode cX2_init 88 = .ok (.aload_n 0, 1) := by decide +kernel
theorem dX2_init_89 : decode cX2_init 89 = .ok (.getfield 25, 3) := by decide +kernel
theorem dX2_init_92 : decode cX2_init 92 = .ok (.iload_n 2, 1) := by decide +kernel
theorem dX2_init_93 : decode cX2_init 93 = .ok (.iconst (-1), 1) := by decide +kernel
theorem dX2_init_94 : decode cX2_init 94 = .ok (.iastore, 1) := by decide +kernel
theorem dX2_init_95 : decode cX2_init 95 = .ok (.iinc 2 1, 3) := by decide +kernel
theorem dX2_init_98 : decode cX2_init 98 = .ok (.goto (-19), 3) := by decide +kernel
theorem dX2_init_101 : decode cX2_init 101 = .ok (.return_, 1) := by decide +kernel
theorem dX2_copy_0 : decode cX2_copy 0 = .ok (.aload_n 1, 1) := by decide +kernel
theorem dX2_copy_1 : decode cX2_copy 1 = .ok (.iconst 0, 1) := by decide +kernel
theorem dX2_copy_2 : decode cX2_copy 2 = .ok (.aload_n 2, 1) := by decide +kernel
theorem dX2_copy_3 : decode cX2_copy 3 = .ok (.iconst 0, 1) := by decide +kernel
theorem dX2_copy_4 : decode cX2_copy 4 = .ok (.aload_n 1, 1) := by decide +kernel
theorem dX2_copy_5 : decode cX2_copy 5 = .ok (.arraylength, 1) := by decide +kernel
theorem dX2_copy_6 : decode cX2_copy 6 = .ok (.invokestatic 41, 3) := by decide +kernel
theorem dX2_copy_9 : decode cX2_copy 9 = .ok (.return_, 1) := by decide +kernel
set_option maxRecDepth 20000 in
theorem ggX2_become_X2_copy : GoodIn wsX2_become wsX2_copy := goodIn_r _ [13, 14, 15, 16, 17] (by decide +kernel) (by decide +kernel)
set_option maxRecDepth 20000 in
theorem gX2_become_X2_copy : GoodIn wsX2_become (wsV RX2 51 RX2 yX2_copy wsX2_copy) := goodIn_app (goodIn_of _ (by decide +kernel)) ggX2_become_X2_copy
theorem dX2_become_0 : decode cX2_become 0 = .ok (.aload_n 0, 1) := by decide +kernel
theorem dX2_become_1 : decode cX2_become 1 = .ok (.aload_n 1, 1) := by decide +kernel
theorem dX2_become_2 : decode cX2_become 2 = .ok (.getfield 47, 3) := by decide +kernel
theorem dX2_become_5 : decode cX2_become 5 = .ok (.putfield 47, 3) := by decide +kernel
theorem dX2_become_8 : decode cX2_become 8 = .ok (.aload_n 0, 1) := by decide +kernel
theorem dX2_become_9 : decode cX2_become 9 = .ok (.aload_n 1, 1) := by decide +kernel
theorem dX2_become_10 : decode cX2_become 10 = .ok (.getfield 15, 3) := by decide +kernel
theorem dX2_become_13 : decode cX2_become 13 = .ok (.aload_n 0, 1) := by decide +kernel
theorem dX2_become_14 : decode cX2_become 14 = .ok (.getfield 15, 3) := by decide +kernel
theorem dX2_become_17 : decode cX2_become 17 = .ok (.invokevirtual 51, 3) := by decide +kernel
theorem dX2_become_20 : decode cX2_become 20 = .ok (.aload_n 0, 1) := by decide +kernel
theorem dX2_become_21 : decode cX2_become 21 = .ok (.aload_n 1, 1) := by decide +kernel
theorem dX2_become_22 : decode cX2_become 22 = .ok (.getfield 19, 3) := by decide +kernel
theorem dX2_become_25 : decode cX2_become 25 = .ok (.aload_n 0, 1) := by decide +kernel
theorem dX2_become_26 : decode cX2_become 26 = .ok (.getfield 19, 3) := by decide +kernel
theorem dX2_become_29 : decode cX2_become 29 = .ok (.invokevirtual 51, 3) := by decide +kernel
theorem dX2_become_32 : decode cX2_become 32 = .ok (.aload_n 0, 1) := by decide +kernel
theorem dX2_become_33 : decode cX2_become 33 = .ok (.aload_n 1, 1) := by decide +kernel
theorem dX2_become_34 : decode cX2_become 34 = .ok (.getfield 22, 3) := by decide +kernel
theorem dX2_become_37 : decode cX2_become 37 = .ok (.aload_n 0, 1) := by decide +kernel
theorem dX2_become_38 : decode cX2_become 38 = .ok (.getfield 22, 3) := by decide +kernel
theorem dX2_become_41 : decode cX2_become 41 = .ok (.invokevirtual 51, 3) := by decide +kernel
theorem dX2_become_44 : decode cX2_become 44 = .ok (.aload_n 0, 1) := by decide +kernel
theorem dX2_become_45 : decode cX2_become 45 = .ok (.aload_n 1, 1) := by decide +kernel
theorem dX2_become_46 : decode cX2_become 46 = .ok (.getfield 25, 3) := by decide +kernel
theorem dX2_become_49 : decode cX2_become 49 = .ok (.aload_n 0, 1) := by decide +kernel
theorem dX2_become_50 : decode cX2_become 50 = .ok (.getfield 25, 3) := by decide +kernel
theorem dX2_become_53 : decode cX2_become 53 = .ok (.invokevirtual 51, 3) := by decide +kernel
theorem dX2_become_56 : decode cX2_become 56 = .ok (.aload_n 0, 1) := by decide +kernel
theorem dX2_become_57 : decode cX2_become 57 = .ok (.aload_n 1, 1) := by decide +kernel
theorem dX2_become_58 : decode cX2_become 58 = .ok (.getfield 28, 3) := by decide +kernel
theorem dX2_become_61 : decode cX2_become 61 = .ok (.aload_n 0, 1) := by decide +kernel
theorem dX2_become_62 : decode cX2_become 62 = .ok (.getfield 28, 3) := by decide +kernel
theorem dX2_become_65 : decode cX2_become 65 = .ok (.invokevirtual 51, 3) := by decide +kernel
theorem dX2_become_68 : decode cX2_become 68 = .ok (.aload_n 0, 1) := by decide +kernel
theorem dX2_become_69 : decode cX2_become 69 = .ok (.aload_n 1, 1) := by decide +kernel
theorem dX2_become_70 : decode cX2_become 70 = .ok (.getfield 31, 3) := by decide +kernel
theorem dX2_become_73 : decode cX2_become 73 = .ok (.aload_n 0, 1) := by decide +kernel
theorem dX2_become_74 : decode cX2_become 74 = .ok (.getfield 31, 3) := by decide +kernel
theorem dX2_become_77 : decode cX2_become 77 = .ok (.invokevirtual 51, 3) := by decide +kernel
theorem dX2_become_80 : decode cX2_become 80 = .ok (.aload_n 0, 1) := by decide +kernel
theorem dX2_become_81 : decode cX2_become 81 = .ok (.aload_n 1, 1) := by decide +kernel
theorem dX2_become_82 : decode cX2_become 82 = .ok (.getfield 34, 3) := by decide +kernel
theorem dX2_become_85 : decode cX2_become 85 = .ok (.aload_n 0, 1) := by decide +kernel
theorem dX2_become_86 : decode cX2_become 86 = .ok (.getfield 34, 3) := by decide +kernel
theorem dX2_become_89 : decode cX2_become 89 = .ok (.invokevirtual 51, 3) := by decide +kernel
theorem dX2_become_92 : decode cX2_become 92 = .ok (.return_, 1) := by decide +kernel
set_option maxRecDepth 20000 in
theorem ggX2_isThere_X3_cell : GoodIn wsX2_isThere wsX3_cell := goodIn_r _ [4] (by decide +kernel) (by decide +kernel)
set_option maxRecDepth 20000 in
theorem gX2_isThere_X3_cell_n55 : GoodIn wsX2_isThere (wsX3_cell) := ggX2_isThere_X3_cell
theorem dX2_isThere_0 : decode cX2_isThere 0 = .ok (.aload_n 0, 1) := by decide +kernel
theorem dX2_isThere_1 : decode cX2_isThere 1 = .ok (.getfield 25, 3) := by decide +kernel
theorem dX2_isThere_4 : decode cX2_isThere 4 = .ok (.iload_n 1, 1) := by decide +kernel
theorem dX2_isThere_5 : decode cX2_isThere 5 = .ok (.iload_n 2, 1) := by decide +kernel
theorem dX2_isThere_6 : decode cX2_isThere 6 = .ok (.iload_n 3, 1) := by decide +kernel
theorem dX2_isThere_7 : decode cX2_isThere 7 = .ok (.invokestatic 55, 3) := by decide +kernel
theorem dX2_isThere_10 : decode cX2_isThere 10 = .ok (.iaload, 1) := by decide +kernel
theorem dX2_isThere_11 : decode cX2_isThere 11 = .ok (.iconst (-1), 1) := by decide +kernel
theorem dX2_isThere_12 : decode cX2_isThere 12 = .ok (.if_icmp .eq 7, 3) := by decide +kernel
theorem dX2_isThere_15 : decode cX2_isThere 15 = .ok (.iconst 1, 1) := by decide +kernel
theorem dX2_isThere_16 : decode cX2_isThere 16 = .ok (.goto 4, 3) := by decide +kernel
theorem dX2_isThere_19 : decode cX2_isThere 19 = .ok (.iconst 0, 1) := by decide +kernel
theorem dX2_isThere_20 : decode cX2_isThere 20 = .ok (.ireturn, 1) := by decide +kernel
set_option maxRecDepth 20000 in
theorem ggX2_isBare_X2_isThere : GoodIn wsX2_isBare wsX2_isThere := goodIn_r _ [6, 7, 8, 9, 10, 11, 12, 13, 14, 15, 16, 17, 18, 19, 20] (by decide +kernel) (by decide +kernel)
set_option maxRecDepth 20000 in
theorem gX2_isBare_X2_isThere : GoodIn wsX2_isBare (wsV RX2 59 RX2 yX2_isThere wsX2_isThere) := goodIn_app (goodIn_of _ (by decide +kernel)) ggX2_isBare_X2_isThere
theorem dX2_isBare_0 : decode cX2_isBare 0 = .ok (.aload_n 0, 1) := by decide +kernel
theorem dX2_isBare_1 : decode cX2_isBare 1 = .ok (.iload_n 1, 1) := by decide +kernel
theorem dX2_isBare_2 : decode cX2_isBare 2 = .ok (.iload_n 2, 1) := by decide +kernel
theorem dX2_isBare_3 : decode cX2_isBare 3 = .ok (.iload_n 3, 1) := by decide +kernel
theorem dX2_isBare_4 : decode cX2_isBare 4 = .ok (.invokevirtual 59, 3) := by decide +kernel
theorem dX2_isBare_7 : decode cX2_isBare 7 = .ok (.ifCond .eq 34, 3) := by decide +kernel
theorem dX2_isBare_10 : decode cX2_isBare 10 = .ok (.iload_n 2, 1) := by decide +kernel
theorem dX2_isBare_11 : decode cX2_isBare 11 = .ok (.aload_n 0, 1) := by decide +kernel
theorem dX2_isBare_12 : decode cX2_isBare 12 = .ok (.getfield 3, 3) := by decide +kernel
theorem dX2_isBare_15 : decode cX2_isBare 15 = .ok (.getfield 63, 3) := by decide +kernel
theorem dX2_isBare_18 : decode cX2_isBare 18 = .ok (.iload_n 1, 1) := by decide +kernel
theorem dX2_isBare_19 : decode cX2_isBare 19 = .ok (.iaload, 1) := by decide +kernel
theorem dX2_isBare_20 : decode cX2_isBare 20 = .ok (.iconst 1, 1) := by decide +kernel
theorem dX2_isBare_21 : decode cX2_isBare 21 = .ok (.isub, 1) := by decide +kernel
theorem dX2_isBare_22 : decode cX2_isBare 22 = .ok (.if_icmp .ge 19, 3) := by decide +kernel
theorem dX2_isBare_25 : decode cX2_isBare 25 = .ok (.aload_n 0, 1) := by decide +kernel
theorem dX2_isBare_26 : decode cX2_isBare 26 = .ok (.iload_n 1, 1) := by decide +kernel
theorem dX2_isBare_27 : decode cX2_isBare 27 = .ok (.iload_n 2, 1) := by decide +kernel
theorem dX2_isBare_28 : decode cX2_isBare 28 = .ok (.iconst 1, 1) := by decide +kernel
theorem dX2_isBare_29 : decode cX2_isBare 29 = .ok (.iadd, 1) := by decide +kernel
theorem dX2_isBare_30 : decode cX2_isBare 30 = .ok (.iload_n 3, 1) := by decide +kernel
theorem dX2_isBare_31 : decode cX2_isBare 31 = .ok (.invokevirtual 59, 3) := by decide +kernel
theorem dX2_isBare_34 : decode cX2_isBare 34 = .ok (.ifCond .ne 7, 3) := by decide +kernel
theorem dX2_isBare_37 : decode cX2_isBare 37 = .ok (.iconst 1, 1) := by decide +kernel
theorem dX2_isBare_38 : decode cX2_isBare 38 = .ok (.goto 4, 3) := by decide +kernel
theorem dX2_isBare_41 : decode cX2_isBare 41 = .ok (.iconst 0, 1) := by decide +kernel
theorem dX2_isBare_42 : decode cX2_isBare 42 = .ok (.ireturn, 1) := by decide +kernel
theorem dX2_put_0 : decode cX2_put 0 = .ok (.aload_n 0, 1) := by decide +kernel
theorem dX2_put_1 : decode cX2_put 1 = .ok (.getfield 25, 3) := by decide +kernel
theorem dX2_put_4 : decode cX2_put 4 = .ok (.iload_n 1, 1) := by decide +kernel
theorem dX2_put_5 : decode cX2_put 5 = .ok (.iload_n 2, 1) := by decide +kernel
theorem dX2_put_6 : decode cX2_put 6 = .ok (.iastore, 1) := by decide +kernel
theorem dX2_put_7 : decode cX2_put 7 = .ok (.aload_n 0, 1) := by decide +kernel
theorem dX2_put_8 : decode cX2_put 8 = .ok (.getfield 28, 3) := by decide +kernel
theorem dX2_put_11 : decode cX2_put 11 = .ok (.iload_n 1, 1) := by decide +kernel
theorem dX2_put_12 : decode cX2_put 12 = .ok (.iload_n 3, 1) := by decide +kernel
theorem dX2_put_13 : decode cX2_put 13 = .ok (.iastore, 1) := by decide +kernel
theorem dX2_put_14 : decode cX2_put 14 = .ok (.aload_n 0, 1) := by decide +kernel
theorem dX2_put_15 : decode cX2_put 15 = .ok (.getfield 31, 3) := by decide +kernel
theorem dX2_put_18 : decode cX2_put 18 = .ok (.iload_n 1, 1) := by decide +kernel
theorem dX2_put_19 : decode cX2_put 19 = .ok (.iload 4, 2) := by decide +kernel
theorem dX2_put_21 : decode cX2_put 21 = .ok (.iastore, 1) := by decide +kernel
theorem dX2_put_22 : decode cX2_put 22 = .ok (.aload_n 0, 1) := by decide +kernel
theorem dX2_put_23 : decode cX2_put 23 = .ok (.getfield 34, 3) := by decide +kernel
theorem dX2_put_26 : decode cX2_put 26 = .ok (.iload_n 1, 1) := by decide +kernel
theorem dX2_put_27 : decode cX2_put 27 = .ok (.iconst 0, 1) := by decide +kernel
theorem dX2_put_28 : decode cX2_put 28 = .ok (.iastore, 1) := by decide +kernel
theorem dX2_put_29 : decode cX2_put 29 = .ok (.return_, 1) := by decide +kernel
theorem dX2_mend_0 : decode cX2_mend 0 = .ok (.aload_n 0, 1) := by decide +kernel
theorem dX2_mend_1 : decode cX2_mend 1 = .ok (.getfield 34, 3) := by decide +kernel
theorem dX2_mend_4 : decode cX2_mend 4 = .ok (.iload_n 1, 1) := by decide +kernel
theorem dX2_mend_5 : decode cX2_mend 5 = .ok (.iconst 0, 1) := by decide +kernel
theorem dX2_mend_6 : decode cX2_mend 6 = .ok (.iastore, 1) := by decide +kernel
theorem dX2_mend_7 : decode cX2_mend 7 = .ok (.aload_n 0, 1) := by decide +kernel
theorem dX2_mend_8 : decode cX2_mend 8 = .ok (.getfield 31, 3) := by decide +kernel
theorem dX2_mend_11 : decode cX2_mend 11 = .ok (.iload_n 1, 1) := by decide +kernel
theorem dX2_mend_12 : decode cX2_mend 12 = .ok (.bipush 9, 2) := by decide +kernel
theorem dX2_mend_14 : decode cX2_mend 14 = .ok (.aload_n 0, 1) := by decide +kernel
theorem dX2_mend_15 : decode cX2_mend 15 = .ok (.getfield 31, 3) := by decide +kernel
theorem dX2_mend_18 : decode cX2_mend 18 = .ok (.iload_n 1, 1) := by decide +kernel
theorem dX2_mend_19 : decode cX2_mend 19 = .ok (.iaload, 1) := by decide +kernel
theorem dX2_mend_20 : decode cX2_mend 20 = .ok (.iconst 2, 1) := by decide +kernel
theorem dX2_mend_21 : decode cX2_mend 21 = .ok (.iadd, 1) := by decide +kernel
theorem dX2_mend_22 : decode cX2_mend 22 = .ok (.invokestatic 66, 3) := by decide +kernel
theorem dX2_mend_25 : decode cX2_mend 25 = .ok (.iastore, 1) := by decide +kernel
theorem dX2_mend_26 : decode cX2_mend 26 = .ok (.aload_n 0, 1) := by decide +kernel
theorem dX2_mend_27 : decode cX2_mend 27 = .ok (.getfield 28, 3) := by decide +kernel
theorem dX2_mend_30 : decode cX2_mend 30 = .ok (.iload_n 1, 1) := by decide +kernel
theorem dX2_mend_31 : decode cX2_mend 31 = .ok (.bipush 40, 2) := by decide +kernel
theorem dX2_mend_33 : decode cX2_mend 33 = .ok (.aload_n 0, 1) := by decide +kernel
theorem dX2_mend_34 : decode cX2_mend 34 = .ok (.getfield 28, 3) := by decide +kernel
theorem dX2_mend_37 : decode cX2_mend 37 = .ok (.iload_n 1, 1) := by decide +kernel
theorem dX2_mend_38 : decode cX2_mend 38 = .ok (.iaload, 1) := by decide +kernel
theorem dX2_mend_39 : decode cX2_mend 39 = .ok (.bipush 10, 2) := by decide +kernel
theorem dX2_mend_41 : decode cX2_mend 41 = .ok (.iadd, 1) := by decide +kernel
theorem dX2_mend_42 : decode cX2_mend 42 = .ok (.invokestatic 66, 3) := by decide +kernel
theorem dX2_mend_45 : decode cX2_mend 45 = .ok (.iastore, 1) := by decide +kernel
theorem dX2_mend_46 : decode cX2_mend 46 = .ok (.return_, 1) := by decide +kernel
set_option maxRecDepth 20000 in
theorem ggX2_thinned_X3_cell : GoodIn wsX2_thinned wsX3_cell := goodIn_r _ [6] (by decide +kernel) (by decide +kernel)
set_option maxRecDepth 20000 in
theorem gX2_thinned_X3_cell_n55 : GoodIn wsX2_thinned (wsX3_cell) := ggX2_thinned_X3_cell
set_option maxRecDepth 20000 in
theorem ggX2_thinned_X2_isBare : GoodIn wsX2_thinned wsX2_isBare := goodIn_r _ [11, 2, 12, 13, 14, 10, 15, 3, 4, 5, 6, 16, 17, 18, 19, 20, 21, 22, 23, 24, 25, 26, 27, 28, 29, 30, 31, 32, 33, 34, 35] (by decide +kernel) (by decide +kernel)
set_option maxRecDepth 20000 in
theorem gX2_thinned_X2_isBare : GoodIn wsX2_thinned (wsV RX2 72 RX2 yX2_isBare wsX2_isBare) := goodIn_app (goodIn_of _ (by decide +kernel)) ggX2_thinned_X2_isBare
theorem dX2_thinned_0 : decode cX2_thinned 0 = .ok (.iload_n 1, 1) := by decide +kernel
theorem dX2_thinned_1 : decode cX2_thinned 1 = .ok (.iload_n 2, 1) := by decide +kernel
theorem dX2_thinned_2 : decode cX2_thinned 2 = .ok (.iload_n 3, 1) := by decide +kernel
theorem dX2_thinned_3 : decode cX2_thinned 3 = .ok (.invokestatic 55, 3) := by decide +kernel
theorem dX2_thinned_6 : decode cX2_thinned 6 = .ok (.istore 5, 2) := by decide +kernel
theorem dX2_thinned_8 : decode cX2_thinned 8 = .ok (.iload 4, 2) := by decide +kernel
theorem dX2_thinned_10 : decode cX2_thinned 10 = .ok (.aload_n 0, 1) := by decide +kernel
theorem dX2_thinned_11 : decode cX2_thinned 11 = .ok (.getfield 34, 3) := by decide +kernel
theorem dX2_thinned_14 : decode cX2_thinned 14 = .ok (.iload 5, 2) := by decide +kernel
theorem dX2_thinned_16 : decode cX2_thinned 16 = .ok (.iaload, 1) := by decide +kernel
theorem dX2_thinned_17 : decode cX2_thinned 17 = .ok (.iconst 3, 1) := by decide +kernel
theorem dX2_thinned_18 : decode cX2_thinned 18 = .ok (.idiv, 1) := by decide +kernel
theorem dX2_thinned_19 : decode cX2_thinned 19 = .ok (.iadd, 1) := by decide +kernel
theorem dX2_thinned_20 : decode cX2_thinned 20 = .ok (.aload_n 0, 1) := by decide +kernel
theorem dX2_thinned_21 : decode cX2_thinned 21 = .ok (.iload_n 1, 1) := by decide +kernel
theorem dX2_thinned_22 : decode cX2_thinned 22 = .ok (.iload_n 2, 1) := by decide +kernel
theorem dX2_thinned_23 : decode cX2_thinned 23 = .ok (.iload_n 3, 1) := by decide +kernel
theorem dX2_thinned_24 : decode cX2_thinned 24 = .ok (.invokevirtual 72, 3) := by decide +kernel
theorem dX2_thinned_27 : decode cX2_thinned 27 = .ok (.ifCond .eq 7, 3) := by decide +kernel
theorem dX2_thinned_30 : decode cX2_thinned 30 = .ok (.iconst 2, 1) := by decide +kernel
theorem dX2_thinned_31 : decode cX2_thinned 31 = .ok (.goto 4, 3) := by decide +kernel
theorem dX2_thinned_34 : decode cX2_thinned 34 = .ok (.iconst 0, 1) := by decide +kernel
theorem dX2_thinned_35 : decode cX2_thinned 35 = .ok (.iadd, 1) := by decide +kernel
theorem dX2_thinned_36 : decode cX2_thinned 36 = .ok (.istore 6, 2) := by decide +kernel
theorem dX2_thinned_38 : decode cX2_thinned 38 = .ok (.iload 6, 2) := by decide +kernel
theorem dX2_thinned_40 : decode cX2_thinned 40 = .ok (.bipush 70, 2) := by decide +kernel
theorem dX2_thinned_42 : decode cX2_thinned 42 = .ok (.aload_n 0, 1) := by decide +kernel
theorem dX2_thinned_43 : decode cX2_thinned 43 = .ok (.getfield 3, 3) := by decide +kernel
theorem dX2_thinned_46 : decode cX2_thinned 46 = .ok (.getfield 75, 3) := by decide +kernel
theorem dX2_thinned_49 : decode cX2_thinned 49 = .ok (.iload_n 1, 1) := by decide +kernel
theorem dX2_thinned_50 : decode cX2_thinned 50 = .ok (.iaload, 1) := by decide +kernel
theorem dX2_thinned_51 : decode cX2_thinned 51 = .ok (.isub, 1) := by decide +kernel
theorem dX2_thinned_52 : decode cX2_thinned 52 = .ok (.imul, 1) := by decide +kernel
theorem dX2_thinned_53 : decode cX2_thinned 53 = .ok (.bipush 100, 2) := by decide +kernel
theorem dX2_thinned_55 : decode cX2_thinned 55 = .ok (.idiv, 1) := by decide +kernel
theorem dX2_thinned_56 : decode cX2_thinned 56 = .ok (.aload_n 0, 1) := by decide +kernel
theorem dX2_thinned_57 : decode cX2_thinned 57 = .ok (.getfield 25, 3) := by decide +kernel
theorem dX2_thinned_60 : decode cX2_thinned 60 = .ok (.iload 5, 2) := by decide +kernel
theorem dX2_thinned_62 : decode cX2_thinned 62 = .ok (.iaload, 1) := by decide +kernel
theorem dX2_thinned_63 : decode cX2_thinned 63 = .ok (.iconst 1, 1) := by decide +kernel
theorem dX2_thinned_64 : decode cX2_thinned 64 = .ok (.if_icmp .ne 7, 3) := by decide +kernel
theorem dX2_thinned_67 : decode cX2_thinned 67 = .ok (.iconst 1, 1) := by decide +kernel
theorem dX2_thinned_68 : decode cX2_thinned 68 = .ok (.goto 4, 3) := by decide +kernel
theorem dX2_thinned_71 : decode cX2_thinned 71 = .ok (.iconst 0, 1) := by decide +kernel
theorem dX2_thinned_72 : decode cX2_thinned 72 = .ok (.iadd, 1) := by decide +kernel
theorem dX2_thinned_73 : decode cX2_thinned 73 = .ok (.ireturn, 1) := by decide +kernel
set_option maxRecDepth 20000 in
theorem ggX2_isTorn_X3_cell : GoodIn wsX2_isTorn wsX3_cell := goodIn_r _ [8] (by decide +kernel) (by decide +kernel)
set_option maxRecDepth 20000 in
theorem gX2_isTorn_X3_cell_n55 : GoodIn wsX2_isTorn (wsX3_cell) := ggX2_isTorn_X3_cell
set_option maxRecDepth 20000 in
theorem ggX2_isTorn_X2_isBare : GoodIn wsX2_isTorn wsX2_isBare := goodIn_r _ [13, 1, 14, 15, 16, 12, 17, 5, 6, 7, 8, 18, 19, 20, 21, 22, 23, 24, 25, 26, 27, 28, 29, 30, 31, 32, 33, 34, 35, 36, 37] (by decide +kernel) (by decide +kernel)
set_option maxRecDepth 20000 in
theorem gX2_isTorn_X2_isBare : GoodIn wsX2_isTorn (wsV RX2 72 RX2 yX2_isBare wsX2_isBare) := goodIn_app (goodIn_of _ (by decide +kernel)) ggX2_isTorn_X2_isBare
theorem dX2_isTorn_0 : decode cX2_isTorn 0 = .ok (.iload_n 1, 1) := by decide +kernel
theorem dX2_isTorn_1 : decode cX2_isTorn 1 = .ok (.iload_n 2, 1) := by decide +kernel
theorem dX2_isTorn_2 : decode cX2_isTorn 2 = .ok (.iload_n 3, 1) := by decide +kernel
theorem dX2_isTorn_3 : decode cX2_isTorn 3 = .ok (.invokestatic 55, 3) := by decide +kernel
theorem dX2_isTorn_6 : decode cX2_isTorn 6 = .ok (.istore 5, 2) := by decide +kernel
theorem dX2_isTorn_8 : decode cX2_isTorn 8 = .ok (.iconst 2, 1) := by decide +kernel
theorem dX2_isTorn_9 : decode cX2_isTorn 9 = .ok (.iload 4, 2) := by decide +kernel
theorem dX2_isTorn_11 : decode cX2_isTorn 11 = .ok (.imul, 1) := by decide +kernel
theorem dX2_isTorn_12 : decode cX2_isTorn 12 = .ok (.aload_n 0, 1) := by decide +kernel
theorem dX2_isTorn_13 : decode cX2_isTorn 13 = .ok (.iload_n 1, 1) := by decide +kernel
theorem dX2_isTorn_14 : decode cX2_isTorn 14 = .ok (.iload_n 2, 1) := by decide +kernel
theorem dX2_isTorn_15 : decode cX2_isTorn 15 = .ok (.iload_n 3, 1) := by decide +kernel
theorem dX2_isTorn_16 : decode cX2_isTorn 16 = .ok (.invokevirtual 72, 3) := by decide +kernel
theorem dX2_isTorn_19 : decode cX2_isTorn 19 = .ok (.ifCond .eq 7, 3) := by decide +kernel
theorem dX2_isTorn_22 : decode cX2_isTorn 22 = .ok (.iconst 3, 1) := by decide +kernel
theorem dX2_isTorn_23 : decode cX2_isTorn 23 = .ok (.goto 4, 3) := by decide +kernel
theorem dX2_isTorn_26 : decode cX2_isTorn 26 = .ok (.iconst 0, 1) := by decide +kernel
theorem dX2_isTorn_27 : decode cX2_isTorn 27 = .ok (.iadd, 1) := by decide +kernel
theorem dX2_isTorn_28 : decode cX2_isTorn 28 = .ok (.iload_n 3, 1) := by decide +kernel
theorem dX2_isTorn_29 : decode cX2_isTorn 29 = .ok (.ifCond .eq 18, 3) := by decide +kernel
theorem dX2_isTorn_32 : decode cX2_isTorn 32 = .ok (.iload_n 3, 1) := by decide +kernel
theorem dX2_isTorn_33 : decode cX2_isTorn 33 = .ok (.aload_n 0, 1) := by decide +kernel
theorem dX2_isTorn_34 : decode cX2_isTorn 34 = .ok (.getfield 3, 3) := by decide +kernel
theorem dX2_isTorn_37 : decode cX2_isTorn 37 = .ok (.getfield 78, 3) := by decide +kernel
theorem dX2_isTorn_40 : decode cX2_isTorn 40 = .ok (.iload_n 1, 1) := by decide +kernel
theorem dX2_isTorn_41 : decode cX2_isTorn 41 = .ok (.iaload, 1) := by decide +kernel
theorem dX2_isTorn_42 : decode cX2_isTorn 42 = .ok (.iconst 1, 1) := by decide +kernel
theorem dX2_isTorn_43 : decode cX2_isTorn 43 = .ok (.isub, 1) := by decide +kernel
theorem dX2_isTorn_44 : decode cX2_isTorn 44 = .ok (.if_icmp .ne 7, 3) := by decide +kernel
theorem dX2_isTorn_47 : decode cX2_isTorn 47 = .ok (.iconst 2, 1) := by decide +kernel
theorem dX2_isTorn_48 : decode cX2_isTorn 48 = .ok (.goto 4, 3) := by decide +kernel
theorem dX2_isTorn_51 : decode cX2_isTorn 51 = .ok (.iconst 0, 1) := by decide +kernel
theorem dX2_isTorn_52 : decode cX2_isTorn 52 = .ok (.iadd, 1) := by decide +kernel
theorem dX2_isTorn_53 : decode cX2_isTorn 53 = .ok (.istore 6, 2) := by decide +kernel
theorem dX2_isTorn_55 : decode cX2_isTorn 55 = .ok (.iconst 2, 1) := by decide +kernel
theorem dX2_isTorn_56 : decode cX2_isTorn 56 = .ok (.aload_n 0, 1) := by decide +kernel
theorem dX2_isTorn_57 : decode cX2_isTorn 57 = .ok (.getfield 31, 3) := by decide +kernel
theorem dX2_isTorn_60 : decode cX2_isTorn 60 = .ok (.iload 5, 2) := by decide +kernel
theorem dX2_isTorn_62 : decode cX2_isTorn 62 = .ok (.iaload, 1) := by decide +kernel
theorem dX2_isTorn_63 : decode cX2_isTorn 63 = .ok (.imul, 1) := by decide +kernel
theorem dX2_isTorn_64 : decode cX2_isTorn 64 = .ok (.aload_n 0, 1) := by decide +kernel
theorem dX2_isTorn_65 : decode cX2_isTorn 65 = .ok (.getfield 28, 3) := by decide +kernel
theorem dX2_isTorn_68 : decode cX2_isTorn 68 = .ok (.iload 5, 2) := by decide +kernel
theorem dX2_isTorn_70 : decode cX2_isTorn 70 = .ok (.iaload, 1) := by decide +kernel
theorem dX2_isTorn_71 : decode cX2_isTorn 71 = .ok (.iconst 4, 1) := by decide +kernel
theorem dX2_isTorn_72 : decode cX2_isTorn 72 = .ok (.idiv, 1) := by decide +kernel
theorem dX2_isTorn_73 : decode cX2_isTorn 73 = .ok (.iadd, 1) := by decide +kernel
theorem dX2_isTorn_74 : decode cX2_isTorn 74 = .ok (.iload_n 2, 1) := by decide +kernel
theorem dX2_isTorn_75 : decode cX2_isTorn 75 = .ok (.aload_n 0, 1) := by decide +kernel
theorem dX2_isTorn_76 : decode cX2_isTorn 76 = .ok (.getfield 3, 3) := by decide +kernel
theorem dX2_isTorn_79 : decode cX2_isTorn 79 = .ok (.getfield 63, 3) := by decide +kernel
theorem dX2_isTorn_82 : decode cX2_isTorn 82 = .ok (.iload_n 1, 1) := by decide +kernel
theorem dX2_isTorn_83 : decode cX2_isTorn 83 = .ok (.iaload, 1) := by decide +kernel
theorem dX2_isTorn_84 : decode cX2_isTorn 84 = .ok (.iconst 1, 1) := by decide +kernel
theorem dX2_isTorn_85 : decode cX2_isTorn 85 = .ok (.isub, 1) := by decide +kernel
theorem dX2_isTorn_86 : decode cX2_isTorn 86 = .ok (.if_icmp .ne 15, 3) := by decide +kernel
theorem dX2_isTorn_89 : decode cX2_isTorn 89 = .ok (.aload_n 0, 1) := by decide +kernel
theorem dX2_isTorn_90 : decode cX2_isTorn 90 = .ok (.getfield 15, 3) := by decide +kernel
theorem dX2_isTorn_93 : decode cX2_isTorn 93 = .ok (.iload_n 1, 1) := by decide +kernel
theorem dX2_isTorn_94 : decode cX2_isTorn 94 = .ok (.iaload, 1) := by decide +kernel
theorem dX2_isTorn_95 : decode cX2_isTorn 95 = .ok (.bipush 20, 2) := by decide +kernel
theorem dX2_isTorn_97 : decode cX2_isTorn 97 = .ok (.idiv, 1) := by decide +kernel
theorem dX2_isTorn_98 : decode cX2_isTorn 98 = .ok (.goto 4, 3) := by decide +kernel
theorem dX2_isTorn_101 : decode cX2_isTorn 101 = .ok (.iconst 0, 1) := by decide +kernel
theorem dX2_isTorn_102 : decode cX2_isTorn 102 = .ok (.iadd, 1) := by decide +kernel
theorem dX2_isTorn_103 : decode cX2_isTorn 103 = .ok (.istore 7, 2) := by decide +kernel
theorem dX2_isTorn_105 : decode cX2_isTorn 105 = .ok (.aload_n 0, 1) := by decide +kernel
theorem dX2_isTorn_106 : decode cX2_isTorn 106 = .ok (.getfield 25, 3) := by decide +kernel
theorem dX2_isTorn_109 : decode cX2_isTorn 109 = .ok (.iload 5, 2) := by decide +kernel
theorem dX2_isTorn_111 : decode cX2_isTorn 111 = .ok (.iaload, 1) := by decide +kernel
theorem dX2_isTorn_112 : decode cX2_isTorn 112 = .ok (.iconst (-1), 1) := by decide +kernel
theorem dX2_isTorn_113 : decode cX2_isTorn 113 = .ok (.if_icmp .eq 14, 3) := by decide +kernel
theorem dX2_isTorn_116 : decode cX2_isTorn 116 = .ok (.iload 6, 2) := by decide +kernel
theorem dX2_isTorn_118 : decode cX2_isTorn 118 = .ok (.iload 7, 2) := by decide +kernel
theorem dX2_isTorn_120 : decode cX2_isTorn 120 = .ok (.if_icmp .le 7, 3) := by decide +kernel
theorem dX2_isTorn_123 : decode cX2_isTorn 123 = .ok (.iconst 1, 1) := by decide +kernel
theorem dX2_isTorn_124 : decode cX2_isTorn 124 = .ok (.goto 4, 3) := by decide +kernel
theorem dX2_isTorn_127 : decode cX2_isTorn 127 = .ok (.iconst 0, 1) := by decide +kernel
theorem dX2_isTorn_128 : decode cX2_isTorn 128 = .ok (.ireturn, 1) := by decide +kernel
set_option maxRecDepth 20000 in
theorem ggX2_clear_X2_put : GoodIn wsX2_clear wsX2_put := goodIn_r _ [6, 7, 8, 9, 10, 11, 12, 13, 14, 15, 16, 17, 18, 19, 20] (by decide +kernel) (by decide +kernel)
set_option maxRecDepth 20000 in
theorem gX2_clear_X2_put : GoodIn wsX2_clear (wsV RX2 81 RX2 yX2_put wsX2_put) := goodIn_app (goodIn_of _ (by decide +kernel)) ggX2_clear_X2_put
theorem dX2_clear_0 : decode cX2_clear 0 = .ok (.iconst 0, 1) := by decide +kernel
theorem dX2_clear_1 : decode cX2_clear 1 = .ok (.istore_n 2, 1) := by decide +kernel
theorem dX2_clear_2 : decode cX2_clear 2 = .ok (.iconst 0, 1) := by decide +kernel
theorem dX2_clear_3 : decode cX2_clear 3 = .ok (.istore_n 3, 1) := by decide +kernel
theorem dX2_clear_4 : decode cX2_clear 4 = .ok (.iload_n 3, 1) := by decide +kernel
theorem dX2_clear_5 : decode cX2_clear 5 = .ok (.bipush 60, 2) := by decide +kernel
theorem dX2_clear_7 : decode cX2_clear 7 = .ok (.if_icmp .ge 44, 3) := by decide +kernel
theorem dX2_clear_10 : decode cX2_clear 10 = .ok (.aload_n 0, 1) := by decide +kernel
theorem dX2_clear_11 : decode cX2_clear 11 = .ok (.getfield 37, 3) := by decide +kernel
theorem dX2_clear_14 : decode cX2_clear 14 = .ok (.iload_n 3, 1) := by decide +kernel
theorem dX2_clear_15 : decode cX2_clear 15 = .ok (.baload, 1) := by decide +kernel
theorem dX2_clear_16 : decode cX2_clear 16 = .ok (.ifCond .ne 6, 3) := by decide +kernel
theorem dX2_clear_19 : decode cX2_clear 19 = .ok (.goto 26, 3) := by decide +kernel
theorem dX2_clear_22 : decode cX2_clear 22 = .ok (.aload_n 0, 1) := by decide +kernel
theorem dX2_clear_23 : decode cX2_clear 23 = .ok (.bipush 60, 2) := by decide +kernel
theorem dX2_clear_25 : decode cX2_clear 25 = .ok (.iload_n 1, 1) := by decide +kernel
theorem dX2_clear_26 : decode cX2_clear 26 = .ok (.imul, 1) := by decide +kernel
theorem dX2_clear_27 : decode cX2_clear 27 = .ok (.iload_n 3, 1) := by decide +kernel
theorem dX2_clear_28 : decode cX2_clear 28 = .ok (.iadd, 1) := by decide +kernel
theorem dX2_clear_29 : decode cX2_clear 29 = .ok (.iconst (-1), 1) := by decide +kernel
theorem dX2_clear_30 : decode cX2_clear 30 = .ok (.iconst 0, 1) := by decide +kernel
theorem dX2_clear_31 : decode cX2_clear 31 = .ok (.iconst 0, 1) := by decide +kernel
theorem dX2_clear_32 : decode cX2_clear 32 = .ok (.invokevirtual 81, 3) := by decide +kernel
theorem dX2_clear_35 : decode cX2_clear 35 = .ok (.aload_n 0, 1) := by decide +kernel
theorem dX2_clear_36 : decode cX2_clear 36 = .ok (.getfield 37, 3) := by decide +kernel
theorem dX2_clear_39 : decode cX2_clear 39 = .ok (.iload_n 3, 1) := by decide +kernel
theorem dX2_clear_40 : decode cX2_clear 40 = .ok (.iconst 0, 1) := by decide +kernel
theorem dX2_clear_41 : decode cX2_clear 41 = .ok (.bastore, 1) := by decide +kernel
theorem dX2_clear_42 : decode cX2_clear 42 = .ok (.iinc 2 1, 3) := by decide +kernel
theorem dX2_clear_45 : decode cX2_clear 45 = .ok (.iinc 3 1, 3) := by decide +kernel
theorem dX2_clear_48 : decode cX2_clear 48 = .ok (.goto (-44), 3) := by decide +kernel
theorem dX2_clear_51 : decode cX2_clear 51 = .ok (.iload_n 2, 1) := by decide +kernel
theorem dX2_clear_52 : decode cX2_clear 52 = .ok (.ireturn, 1) := by decide +kernel
set_option maxRecDepth 20000 in
theorem ggX2_pass_X2_thinned : GoodIn wsX2_pass wsX2_thinned := goodIn_r _ [20, 6, 1, 2, 21, 22, 23, 24, 25, 26, 19, 27, 28, 29, 30, 31, 45, 46, 47, 48, 49, 50, 51, 52, 53, 54, 55, 56, 57, 58, 59, 60, 61, 62, 63, 64] (by decide +kernel) (by decide +kernel)
set_option maxRecDepth 20000 in
theorem gX2_pass_X2_thinned : GoodIn wsX2_pass (wsV RX2 91 RX2 yX2_thinned wsX2_thinned) := goodIn_app (goodIn_of _ (by decide +kernel)) ggX2_pass_X2_thinned
set_option maxRecDepth 20000 in
theorem ggX2_pass_X2_clear : GoodIn wsX2_pass wsX2_clear := goodIn_r _ [35, 4, 36, 37, 38, 19, 39, 2, 3, 40, 6, 45, 46, 47, 48, 49, 50, 51, 52, 53, 54] (by decide +kernel) (by decide +kernel)
set_option maxRecDepth 20000 in
theorem gX2_pass_X2_clear : GoodIn wsX2_pass (wsV RX2 95 RX2 yX2_clear wsX2_clear) := goodIn_app (goodIn_of _ (by decide +kernel)) ggX2_pass_X2_clear
set_option maxRecDepth 20000 in
theorem ggX2_pass_X2_isTorn : GoodIn wsX2_pass wsX2_isTorn := goodIn_r _ [44, 1, 40, 3, 12, 2, 21, 22, 23, 24, 25, 26, 19, 27, 28, 29, 30, 31, 45, 46, 47, 48, 49, 50, 51, 52, 53, 54, 55, 56, 57, 58, 59, 60, 61, 62, 63, 64] (by decide +kernel) (by decide +kernel)
set_option maxRecDepth 20000 in
theorem gX2_pass_X2_isTorn : GoodIn wsX2_pass (wsV RX2 99 RX2 yX2_isTorn wsX2_isTorn) := goodIn_app (goodIn_of _ (by decide +kernel)) ggX2_pass_X2_isTorn
theorem dX2_pass_0 : decode cX2_pass 0 = .ok (.aload_n 0, 1) := by decide +kernel
theorem dX2_pass_1 : decode cX2_pass 1 = .ok (.getfield 3, 3) := by decide +kernel
theorem dX2_pass_4 : decode cX2_pass 4 = .ok (.getfield 85, 3) := by decide +kernel
theorem dX2_pass_7 : decode cX2_pass 7 = .ok (.iload_n 2, 1) := by decide +kernel
theorem dX2_pass_8 : decode cX2_pass 8 = .ok (.bipush 12, 2) := by decide +kernel
theorem dX2_pass_10 : decode cX2_pass 10 = .ok (.irem, 1) := by decide +kernel
theorem dX2_pass_11 : decode cX2_pass 11 = .ok (.iaload, 1) := by decide +kernel
theorem dX2_pass_12 : decode cX2_pass 12 = .ok (.istore_n 3, 1) := by decide +kernel
theorem dX2_pass_13 : decode cX2_pass 13 = .ok (.aload_n 0, 1) := by decide +kernel
theorem dX2_pass_14 : decode cX2_pass 14 = .ok (.getfield 3, 3) := by decide +kernel
theorem dX2_pass_17 : decode cX2_pass 17 = .ok (.getfield 88, 3) := by decide +kernel
theorem dX2_pass_20 : decode cX2_pass 20 = .ok (.iload_n 2, 1) := by decide +kernel
theorem dX2_pass_21 : decode cX2_pass 21 = .ok (.bipush 12, 2) := by decide +kernel
theorem dX2_pass_23 : decode cX2_pass 23 = .ok (.irem, 1) := by decide +kernel
theorem dX2_pass_24 : decode cX2_pass 24 = .ok (.iaload, 1) := by decide +kernel
theorem dX2_pass_25 : decode cX2_pass 25 = .ok (.istore 4, 2) := by decide +kernel
theorem dX2_pass_27 : decode cX2_pass 27 = .ok (.iconst 0, 1) := by decide +kernel
theorem dX2_pass_28 : decode cX2_pass 28 = .ok (.istore 5, 2) := by decide +kernel
theorem dX2_pass_30 : decode cX2_pass 30 = .ok (.iload 5, 2) := by decide +kernel
theorem dX2_pass_32 : decode cX2_pass 32 = .ok (.bipush 60, 2) := by decide +kernel
theorem dX2_pass_34 : decode cX2_pass 34 = .ok (.if_icmp .ge 120, 3) := by decide +kernel
theorem dX2_pass_37 : decode cX2_pass 37 = .ok (.iload 5, 2) := by decide +kernel
theorem dX2_pass_39 : decode cX2_pass 39 = .ok (.bipush 10, 2) := by decide +kernel
theorem dX2_pass_41 : decode cX2_pass 41 = .ok (.irem, 1) := by decide +kernel
theorem dX2_pass_42 : decode cX2_pass 42 = .ok (.aload_n 0, 1) := by decide +kernel
theorem dX2_pass_43 : decode cX2_pass 43 = .ok (.getfield 3, 3) := by decide +kernel
theorem dX2_pass_46 : decode cX2_pass 46 = .ok (.getfield 78, 3) := by decide +kernel
theorem dX2_pass_49 : decode cX2_pass 49 = .ok (.iload_n 1, 1) := by decide +kernel
theorem dX2_pass_50 : decode cX2_pass 50 = .ok (.iaload, 1) := by decide +kernel
theorem dX2_pass_51 : decode cX2_pass 51 = .ok (.if_icmp .ge 97, 3) := by decide +kernel
theorem dX2_pass_54 : decode cX2_pass 54 = .ok (.iload 5, 2) := by decide +kernel
theorem dX2_pass_56 : decode cX2_pass 56 = .ok (.bipush 10, 2) := by decide +kernel
theorem dX2_pass_58 : decode cX2_pass 58 = .ok (.idiv, 1) := by decide +kernel
theorem dX2_pass_59 : decode cX2_pass 59 = .ok (.aload_n 0, 1) := by decide +kernel
theorem dX2_pass_60 : decode cX2_pass 60 = .ok (.getfield 3, 3) := by decide +kernel
theorem dX2_pass_63 : decode cX2_pass 63 = .ok (.getfield 63, 3) := by decide +kernel
theorem dX2_pass_66 : decode cX2_pass 66 = .ok (.iload_n 1, 1) := by decide +kernel
theorem dX2_pass_67 : decode cX2_pass 67 = .ok (.iaload, 1) := by decide +kernel
theorem dX2_pass_68 : decode cX2_pass 68 = .ok (.if_icmp .ge 80, 3) := by decide +kernel
theorem dX2_pass_71 : decode cX2_pass 71 = .ok (.aload_n 0, 1) := by decide +kernel
theorem dX2_pass_72 : decode cX2_pass 72 = .ok (.getfield 25, 3) := by decide +kernel
theorem dX2_pass_75 : decode cX2_pass 75 = .ok (.bipush 60, 2) := by decide +kernel
theorem dX2_pass_77 : decode cX2_pass 77 = .ok (.iload_n 1, 1) := by decide +kernel
theorem dX2_pass_78 : decode cX2_pass 78 = .ok (.imul, 1) := by decide +kernel
theorem dX2_pass_79 : decode cX2_pass 79 = .ok (.iload 5, 2) := by decide +kernel
theorem dX2_pass_81 : decode cX2_pass 81 = .ok (.iadd, 1) := by decide +kernel
theorem dX2_pass_82 : decode cX2_pass 82 = .ok (.iaload, 1) := by decide +kernel
theorem dX2_pass_83 : decode cX2_pass 83 = .ok (.iconst (-1), 1) := by decide +kernel
theorem dX2_pass_84 : decode cX2_pass 84 = .ok (.if_icmp .ne 6, 3) := by decide +kernel
theorem dX2_pass_87 : decode cX2_pass 87 = .ok (.goto 61, 3) := by decide +kernel
theorem dX2_pass_90 : decode cX2_pass 90 = .ok (.aload_n 0, 1) := by decide +kernel
theorem dX2_pass_91 : decode cX2_pass 91 = .ok (.getfield 28, 3) := by decide +kernel
theorem dX2_pass_94 : decode cX2_pass 94 = .ok (.bipush 60, 2) := by decide +kernel
theorem dX2_pass_96 : decode cX2_pass 96 = .ok (.iload_n 1, 1) := by decide +kernel
theorem dX2_pass_97 : decode cX2_pass 97 = .ok (.imul, 1) := by decide +kernel
theorem dX2_pass_98 : decode cX2_pass 98 = .ok (.iload 5, 2) := by decide +kernel
theorem dX2_pass_100 : decode cX2_pass 100 = .ok (.iadd, 1) := by decide +kernel
theorem dX2_pass_101 : decode cX2_pass 101 = .ok (.dup2, 1) := by decide +kernel
theorem dX2_pass_102 : decode cX2_pass 102 = .ok (.iaload, 1) := by decide +kernel
theorem dX2_pass_103 : decode cX2_pass 103 = .ok (.aload_n 0, 1) := by decide +kernel
theorem dX2_pass_104 : decode cX2_pass 104 = .ok (.iload_n 1, 1) := by decide +kernel
theorem dX2_pass_105 : decode cX2_pass 105 = .ok (.iload 5, 2) := by decide +kernel
theorem dX2_pass_107 : decode cX2_pass 107 = .ok (.bipush 10, 2) := by decide +kernel
theorem dX2_pass_109 : decode cX2_pass 109 = .ok (.idiv, 1) := by decide +kernel
theorem dX2_pass_110 : decode cX2_pass 110 = .ok (.iload 5, 2) := by decide +kernel
theorem dX2_pass_112 : decode cX2_pass 112 = .ok (.bipush 10, 2) := by decide +kernel
theorem dX2_pass_114 : decode cX2_pass 114 = .ok (.irem, 1) := by decide +kernel
theorem dX2_pass_115 : decode cX2_pass 115 = .ok (.iload_n 3, 1) := by decide +kernel
theorem dX2_pass_116 : decode cX2_pass 116 = .ok (.invokevirtual 91, 3) := by decide +kernel
theorem dX2_pass_119 : decode cX2_pass 119 = .ok (.isub, 1) := by decide +kernel
theorem dX2_pass_120 : decode cX2_pass 120 = .ok (.iastore, 1) := by decide +kernel
theorem dX2_pass_121 : decode cX2_pass 121 = .ok (.aload_n 0, 1) := by decide +kernel
theorem dX2_pass_122 : decode cX2_pass 122 = .ok (.getfield 37, 3) := by decide +kernel
theorem dX2_pass_125 : decode cX2_pass 125 = .ok (.iload 5, 2) := by decide +kernel
theorem dX2_pass_127 : decode cX2_pass 127 = .ok (.aload_n 0, 1) := by decide +kernel
theorem dX2_pass_128 : decode cX2_pass 128 = .ok (.getfield 28, 3) := by decide +kernel
theorem dX2_pass_131 : decode cX2_pass 131 = .ok (.bipush 60, 2) := by decide +kernel
theorem dX2_pass_133 : decode cX2_pass 133 = .ok (.iload_n 1, 1) := by decide +kernel
theorem dX2_pass_134 : decode cX2_pass 134 = .ok (.imul, 1) := by decide +kernel
theorem dX2_pass_135 : decode cX2_pass 135 = .ok (.iload 5, 2) := by decide +kernel
theorem dX2_pass_137 : decode cX2_pass 137 = .ok (.iadd, 1) := by decide +kernel
theorem dX2_pass_138 : decode cX2_pass 138 = .ok (.iaload, 1) := by decide +kernel
theorem dX2_pass_139 : decode cX2_pass 139 = .ok (.ifCond .gt 7, 3) := by decide +kernel
theorem dX2_pass_142 : decode cX2_pass 142 = .ok (.iconst 1, 1) := by decide +kernel
theorem dX2_pass_143 : decode cX2_pass 143 = .ok (.goto 4, 3) := by decide +kernel
theorem dX2_pass_146 : decode cX2_pass 146 = .ok (.iconst 0, 1) := by decide +kernel
theorem dX2_pass_147 : decode cX2_pass 147 = .ok (.bastore, 1) := by decide +kernel
theorem dX2_pass_148 : decode cX2_pass 148 = .ok (.iinc 5 1, 3) := by decide +kernel
theorem dX2_pass_151 : decode cX2_pass 151 = .ok (.goto (-121), 3) := by decide +kernel
theorem dX2_pass_154 : decode cX2_pass 154 = .ok (.aload_n 0, 1) := by decide +kernel
theorem dX2_pass_155 : decode cX2_pass 155 = .ok (.getfield 22, 3) := by decide +kernel
theorem dX2_pass_158 : decode cX2_pass 158 = .ok (.iload_n 1, 1) := by decide +kernel
theorem dX2_pass_159 : decode cX2_pass 159 = .ok (.dup2, 1) := by decide +kernel
theorem dX2_pass_160 : decode cX2_pass 160 = .ok (.iaload, 1) := by decide +kernel
theorem dX2_pass_161 : decode cX2_pass 161 = .ok (.aload_n 0, 1) := by decide +kernel
theorem dX2_pass_162 : decode cX2_pass 162 = .ok (.iload_n 1, 1) := by decide +kernel
theorem dX2_pass_163 : decode cX2_pass 163 = .ok (.invokevirtual 95, 3) := by decide +kernel
theorem dX2_pass_166 : decode cX2_pass 166 = .ok (.iadd, 1) := by decide +kernel
theorem dX2_pass_167 : decode cX2_pass 167 = .ok (.iastore, 1) := by decide +kernel
theorem dX2_pass_168 : decode cX2_pass 168 = .ok (.iload_n 3, 1) := by decide +kernel
theorem dX2_pass_169 : decode cX2_pass 169 = .ok (.iconst 5, 1) := by decide +kernel
theorem dX2_pass_170 : decode cX2_pass 170 = .ok (.if_icmp .lt 73, 3) := by decide +kernel
theorem dX2_pass_173 : decode cX2_pass 173 = .ok (.aload_n 0, 1) := by decide +kernel
theorem dX2_pass_174 : decode cX2_pass 174 = .ok (.getfield 3, 3) := by decide +kernel
theorem dX2_pass_177 : decode cX2_pass 177 = .ok (.getfield 75, 3) := by decide +kernel
theorem dX2_pass_180 : decode cX2_pass 180 = .ok (.iload_n 1, 1) := by decide +kernel
theorem dX2_pass_181 : decode cX2_pass 181 = .ok (.iaload, 1) := by decide +kernel
theorem dX2_pass_182 : decode cX2_pass 182 = .ok (.bipush 45, 2) := by decide +kernel
theorem dX2_pass_184 : decode cX2_pass 184 = .ok (.if_icmp .ge 59, 3) := by decide +kernel
theorem dX2_pass_187 : decode cX2_pass 187 = .ok (.bipush 60, 2) := by decide +kernel
theorem dX2_pass_189 : decode cX2_pass 189 = .ok (.iload_n 1, 1) := by decide +kernel
theorem dX2_pass_190 : decode cX2_pass 190 = .ok (.imul, 1) := by decide +kernel
theorem dX2_pass_191 : decode cX2_pass 191 = .ok (.istore 5, 2) := by decide +kernel
theorem dX2_pass_193 : decode cX2_pass 193 = .ok (.iload 5, 2) := by decide +kernel
theorem dX2_pass_195 : decode cX2_pass 195 = .ok (.bipush 60, 2) := by decide +kernel
theorem dX2_pass_197 : decode cX2_pass 197 = .ok (.iload_n 1, 1) := by decide +kernel
theorem dX2_pass_198 : decode cX2_pass 198 = .ok (.imul, 1) := by decide +kernel
theorem dX2_pass_199 : decode cX2_pass 199 = .ok (.bipush 60, 2) := by decide +kernel
theorem dX2_pass_201 : decode cX2_pass 201 = .ok (.iadd, 1) := by decide +kernel
theorem dX2_pass_202 : decode cX2_pass 202 = .ok (.if_icmp .ge 41, 3) := by decide +kernel
theorem dX2_pass_205 : decode cX2_pass 205 = .ok (.aload_n 0, 1) := by decide +kernel
theorem dX2_pass_206 : decode cX2_pass 206 = .ok (.getfield 25, 3) := by decide +kernel
theorem dX2_pass_209 : decode cX2_pass 209 = .ok (.iload 5, 2) := by decide +kernel
theorem dX2_pass_211 : decode cX2_pass 211 = .ok (.iaload, 1) := by decide +kernel
theorem dX2_pass_212 : decode cX2_pass 212 = .ok (.iconst (-1), 1) := by decide +kernel
theorem dX2_pass_213 : decode cX2_pass 213 = .ok (.if_icmp .eq 24, 3) := by decide +kernel
theorem dX2_pass_216 : decode cX2_pass 216 = .ok (.aload_n 0, 1) := by decide +kernel
theorem dX2_pass_217 : decode cX2_pass 217 = .ok (.getfield 34, 3) := by decide +kernel
theorem dX2_pass_220 : decode cX2_pass 220 = .ok (.iload 5, 2) := by decide +kernel
theorem dX2_pass_222 : decode cX2_pass 222 = .ok (.bipush 9, 2) := by decide +kernel
theorem dX2_pass_224 : decode cX2_pass 224 = .ok (.aload_n 0, 1) := by decide +kernel
theorem dX2_pass_225 : decode cX2_pass 225 = .ok (.getfield 34, 3) := by decide +kernel
theorem dX2_pass_228 : decode cX2_pass 228 = .ok (.iload 5, 2) := by decide +kernel
theorem dX2_pass_230 : decode cX2_pass 230 = .ok (.iaload, 1) := by decide +kernel
theorem dX2_pass_231 : decode cX2_pass 231 = .ok (.iconst 1, 1) := by decide +kernel
theorem dX2_pass_232 : decode cX2_pass 232 = .ok (.iadd, 1) := by decide +kernel
theorem dX2_pass_233 : decode cX2_pass 233 = .ok (.invokestatic 66, 3) := by decide +kernel
theorem dX2_pass_236 : decode cX2_pass 236 = .ok (.iastore, 1) := by decide +kernel
theorem dX2_pass_237 : decode cX2_pass 237 = .ok (.iinc 5 1, 3) := by decide +kernel
theorem dX2_pass_240 : decode cX2_pass 240 = .ok (.goto (-47), 3) := by decide +kernel
theorem dX2_pass_243 : decode cX2_pass 243 = .ok (.iconst 0, 1) := by decide +kernel
theorem dX2_pass_244 : decode cX2_pass 244 = .ok (.istore 5, 2) := by decide +kernel
theorem dX2_pass_246 : decode cX2_pass 246 = .ok (.iload 5, 2) := by decide +kernel
theorem dX2_pass_248 : decode cX2_pass 248 = .ok (.bipush 60, 2) := by decide +kernel
theorem dX2_pass_250 : decode cX2_pass 250 = .ok (.if_icmp .ge 75, 3) := by decide +kernel
theorem dX2_pass_253 : decode cX2_pass 253 = .ok (.aload_n 0, 1) := by decide +kernel
theorem dX2_pass_254 : decode cX2_pass 254 = .ok (.getfield 37, 3) := by decide +kernel
theorem dX2_pass_257 : decode cX2_pass 257 = .ok (.iload 5, 2) := by decide +kernel
theorem dX2_pass_259 : decode cX2_pass 259 = .ok (.iload 5, 2) := by decide +kernel
theorem dX2_pass_261 : decode cX2_pass 261 = .ok (.bipush 10, 2) := by decide +kernel
theorem dX2_pass_263 : decode cX2_pass 263 = .ok (.irem, 1) := by decide +kernel
theorem dX2_pass_264 : decode cX2_pass 264 = .ok (.aload_n 0, 1) := by decide +kernel
theorem dX2_pass_265 : decode cX2_pass 265 = .ok (.getfield 3, 3) := by decide +kernel
theorem dX2_pass_268 : decode cX2_pass 268 = .ok (.getfield 78, 3) := by decide +kernel
theorem dX2_pass_271 : decode cX2_pass 271 = .ok (.iload_n 1, 1) := by decide +kernel
theorem dX2_pass_272 : decode cX2_pass 272 = .ok (.iaload, 1) := by decide +kernel
theorem dX2_pass_273 : decode cX2_pass 273 = .ok (.if_icmp .ge 44, 3) := by decide +kernel
theorem dX2_pass_276 : decode cX2_pass 276 = .ok (.iload 5, 2) := by decide +kernel
theorem dX2_pass_278 : decode cX2_pass 278 = .ok (.bipush 10, 2) := by decide +kernel
theorem dX2_pass_280 : decode cX2_pass 280 = .ok (.idiv, 1) := by decide +kernel
theorem dX2_pass_281 : decode cX2_pass 281 = .ok (.aload_n 0, 1) := by decide +kernel
theorem dX2_pass_282 : decode cX2_pass 282 = .ok (.getfield 3, 3) := by decide +kernel
theorem dX2_pass_285 : decode cX2_pass 285 = .ok (.getfield 63, 3) := by decide +kernel
theorem dX2_pass_288 : decode cX2_pass 288 = .ok (.iload_n 1, 1) := by decide +kernel
theorem dX2_pass_289 : decode cX2_pass 289 = .ok (.iaload, 1) := by decide +kernel
theorem dX2_pass_290 : decode cX2_pass 290 = .ok (.if_icmp .ge 27, 3) := by decide +kernel
theorem dX2_pass_293 : decode cX2_pass 293 = .ok (.aload_n 0, 1) := by decide +kernel
theorem dX2_pass_294 : decode cX2_pass 294 = .ok (.iload_n 1, 1) := by decide +kernel
theorem dX2_pass_295 : decode cX2_pass 295 = .ok (.iload 5, 2) := by decide +kernel
theorem dX2_pass_297 : decode cX2_pass 297 = .ok (.bipush 10, 2) := by decide +kernel
theorem dX2_pass_299 : decode cX2_pass 299 = .ok (.idiv, 1) := by decide +kernel
theorem dX2_pass_300 : decode cX2_pass 300 = .ok (.iload 5, 2) := by decide +kernel
theorem dX2_pass_302 : decode cX2_pass 302 = .ok (.bipush 10, 2) := by decide +kernel
theorem dX2_pass_304 : decode cX2_pass 304 = .ok (.irem, 1) := by decide +kernel
theorem dX2_pass_305 : decode cX2_pass 305 = .ok (.iload 4, 2) := by decide +kernel
theorem dX2_pass_307 : decode cX2_pass 307 = .ok (.invokevirtual 99, 3) := by decide +kernel
theorem dX2_pass_310 : decode cX2_pass 310 = .ok (.ifCond .eq 7, 3) := by decide +kernel
theorem dX2_pass_313 : decode cX2_pass 313 = .ok (.iconst 1, 1) := by decide +kernel
theorem dX2_pass_314 : decode cX2_pass 314 = .ok (.goto 4, 3) := by decide +kernel
theorem dX2_pass_317 : decode cX2_pass 317 = .ok (.iconst 0, 1) := by decide +kernel
theorem dX2_pass_318 : decode cX2_pass 318 = .ok (.bastore, 1) := by decide +kernel
theorem dX2_pass_319 : decode cX2_pass 319 = .ok (.iinc 5 1, 3) := by decide +kernel
theorem dX2_pass_322 : decode cX2_pass 322 = .ok (.goto (-76), 3) := by decide +kernel
theorem dX2_pass_325 : decode cX2_pass 325 = .ok (.aload_n 0, 1) := by decide +kernel
theorem dX2_pass_326 : decode cX2_pass 326 = .ok (.getfield 19, 3) := by decide +kernel
theorem dX2_pass_329 : decode cX2_pass 329 = .ok (.iload_n 1, 1) := by decide +kernel
theorem dX2_pass_330 : decode cX2_pass 330 = .ok (.dup2, 1) := by decide +kernel
theorem dX2_pass_331 : decode cX2_pass 331 = .ok (.iaload, 1) := by decide +kernel
theorem dX2_pass_332 : decode cX2_pass 332 = .ok (.aload_n 0, 1) := by decide +kernel
theorem dX2_pass_333 : decode cX2_pass 333 = .ok (.iload_n 1, 1) := by decide +kernel
theorem dX2_pass_334 : decode cX2_pass 334 = .ok (.invokevirtual 95, 3) := by decide +kernel
theorem dX2_pass_337 : decode cX2_pass 337 = .ok (.iadd, 1) := by decide +kernel
theorem dX2_pass_338 : decode cX2_pass 338 = .ok (.iastore, 1) := by decide +kernel
theorem dX2_pass_339 : decode cX2_pass 339 = .ok (.aload_n 0, 1) := by decide +kernel
theorem dX2_pass_340 : decode cX2_pass 340 = .ok (.getfield 15, 3) := by decide +kernel
theorem dX2_pass_343 : decode cX2_pass 343 = .ok (.iload_n 1, 1) := by decide +kernel
theorem dX2_pass_344 : decode cX2_pass 344 = .ok (.iconst 0, 1) := by decide +kernel
theorem dX2_pass_345 : decode cX2_pass 345 = .ok (.aload_n 0, 1) := by decide +kernel
theorem dX2_pass_346 : decode cX2_pass 346 = .ok (.getfield 15, 3) := by decide +kernel
theorem dX2_pass_349 : decode cX2_pass 349 = .ok (.iload_n 1, 1) := by decide +kernel
theorem dX2_pass_350 : decode cX2_pass 350 = .ok (.iaload, 1) := by decide +kernel
theorem dX2_pass_351 : decode cX2_pass 351 = .ok (.iload 4, 2) := by decide +kernel
theorem dX2_pass_353 : decode cX2_pass 353 = .ok (.isub, 1) := by decide +kernel
theorem dX2_pass_354 : decode cX2_pass 354 = .ok (.iconst 1, 1) := by decide +kernel
theorem dX2_pass_355 : decode cX2_pass 355 = .ok (.isub, 1) := by decide +kernel
theorem dX2_pass_356 : decode cX2_pass 356 = .ok (.invokestatic 103, 3) := by decide +kernel
theorem dX2_pass_359 : decode cX2_pass 359 = .ok (.iastore, 1) := by decide +kernel
theorem dX2_pass_360 : decode cX2_pass 360 = .ok (.return_, 1) := by decide +kernel
theorem dX2_yealms_0 : decode cX2_yealms 0 = .ok (.iconst 0, 1) := by decide +kernel
theorem dX2_yealms_1 : decode cX2_yealms 1 = .ok (.istore_n 2, 1) := by decide +kernel
theorem dX2_yealms_2 : decode cX2_yealms 2 = .ok (.bipush 60, 2) := by decide +kernel
theorem dX2_yealms_4 : decode cX2_yealms 4 = .ok (.iload_n 1, 1) := by decide +kernel
theorem dX2_yealms_5 : decode cX2_yealms 5 = .ok (.imul, 1) := by decide +kernel
theorem dX2_yealms_6 : decode cX2_yealms 6 = .ok (.istore_n 3, 1) := by decide +kernel
theorem dX2_yealms_7 : decode cX2_yealms 7 = .ok (.iload_n 3, 1) := by decide +kernel
theorem dX2_yealms_8 : decode cX2_yealms 8 = .ok (.bipush 60, 2) := by decide +kernel
theorem dX2_yealms_10 : decode cX2_yealms 10 = .ok (.iload_n 1, 1) := by decide +kernel
theorem dX2_yealms_11 : decode cX2_yealms 11 = .ok (.imul, 1) := by decide +kernel
theorem dX2_yealms_12 : decode cX2_yealms 12 = .ok (.bipush 60, 2) := by decide +kernel
theorem dX2_yealms_14 : decode cX2_yealms 14 = .ok (.iadd, 1) := by decide +kernel
theorem dX2_yealms_15 : decode cX2_yealms 15 = .ok (.if_icmp .ge 27, 3) := by decide +kernel
theorem dX2_yealms_18 : decode cX2_yealms 18 = .ok (.iload_n 2, 1) := by decide +kernel
theorem dX2_yealms_19 : decode cX2_yealms 19 = .ok (.aload_n 0, 1) := by decide +kernel
theorem dX2_yealms_20 : decode cX2_yealms 20 = .ok (.getfield 25, 3) := by decide +kernel
theorem dX2_yealms_23 : decode cX2_yealms 23 = .ok (.iload_n 3, 1) := by decide +kernel
theorem dX2_yealms_24 : decode cX2_yealms 24 = .ok (.iaload, 1) := by decide +kernel
theorem dX2_yealms_25 : decode cX2_yealms 25 = .ok (.iconst (-1), 1) := by decide +kernel
theorem dX2_yealms_26 : decode cX2_yealms 26 = .ok (.if_icmp .ne 7, 3) := by decide +kernel
theorem dX2_yealms_29 : decode cX2_yealms 29 = .ok (.iconst 0, 1) := by decide +kernel
theorem dX2_yealms_30 : decode cX2_yealms 30 = .ok (.goto 4, 3) := by decide +kernel
theorem dX2_yealms_33 : decode cX2_yealms 33 = .ok (.iconst 1, 1) := by decide +kernel
theorem dX2_yealms_34 : decode cX2_yealms 34 = .ok (.iadd, 1) := by decide +kernel
theorem dX2_yealms_35 : decode cX2_yealms 35 = .ok (.istore_n 2, 1) := by decide +kernel
theorem dX2_yealms_36 : decode cX2_yealms 36 = .ok (.iinc 3 1, 3) := by decide +kernel
theorem dX2_yealms_39 : decode cX2_yealms 39 = .ok (.goto (-32), 3) := by decide +kernel
theorem dX2_yealms_42 : decode cX2_yealms 42 = .ok (.iload_n 2, 1) := by decide +kernel
theorem dX2_yealms_43 : decode cX2_yealms 43 = .ok (.ireturn, 1) := by decide +kernel
theorem dX2_thickness_0 : decode cX2_thickness 0 = .ok (.iconst 0, 1) := by decide +kernel
theorem dX2_thickness_1 : decode cX2_thickness 1 = .ok (.istore_n 2, 1) := by decide +kernel
theorem dX2_thickness_2 : decode cX2_thickness 2 = .ok (.bipush 60, 2) := by decide +kernel
theorem dX2_thickness_4 : decode cX2_thickness 4 = .ok (.iload_n 1, 1) := by decide +kernel
theorem dX2_thickness_5 : decode cX2_thickness 5 = .ok (.imul, 1) := by decide +kernel
theorem dX2_thickness_6 : decode cX2_thickness 6 = .ok (.istore_n 3, 1) := by decide +kernel
theorem dX2_thickness_7 : decode cX2_thickness 7 = .ok (.iload_n 3, 1) := by decide +kernel
theorem dX2_thickness_8 : decode cX2_thickness 8 = .ok (.bipush 60, 2) := by decide +kernel
theorem dX2_thickness_10 : decode cX2_thickness 10 = .ok (.iload_n 1, 1) := by decide +kernel
theorem dX2_thickness_11 : decode cX2_thickness 11 = .ok (.imul, 1) := by decide +kernel
theorem dX2_thickness_12 : decode cX2_thickness 12 = .ok (.bipush 60, 2) := by decide +kernel
theorem dX2_thickness_14 : decode cX2_thickness 14 = .ok (.iadd, 1) := by decide +kernel
theorem dX2_thickness_15 : decode cX2_thickness 15 = .ok (.if_icmp .ge 18, 3) := by decide +kernel
theorem dX2_thickness_18 : decode cX2_thickness 18 = .ok (.iload_n 2, 1) := by decide +kernel
theorem dX2_thickness_19 : decode cX2_thickness 19 = .ok (.aload_n 0, 1) := by decide +kernel
theorem dX2_thickness_20 : decode cX2_thickness 20 = .ok (.getfield 28, 3) := by decide +kernel
theorem dX2_thickness_23 : decode cX2_thickness 23 = .ok (.iload_n 3, 1) := by decide +kernel
theorem dX2_thickness_24 : decode cX2_thickness 24 = .ok (.iaload, 1) := by decide +kernel
theorem dX2_thickness_25 : decode cX2_thickness 25 = .ok (.iadd, 1) := by decide +kernel
theorem dX2_thickness_26 : decode cX2_thickness 26 = .ok (.istore_n 2, 1) := by decide +kernel
theorem dX2_thickness_27 : decode cX2_thickness 27 = .ok (.iinc 3 1, 3) := by decide +kernel
theorem dX2_thickness_30 : decode cX2_thickness 30 = .ok (.goto (-23), 3) := by decide +kernel
theorem dX2_thickness_33 : decode cX2_thickness 33 = .ok (.iload_n 2, 1) := by decide +kernel
theorem dX2_thickness_34 : decode cX2_thickness 34 = .ok (.ireturn, 1) := by decide +kernel
set_option maxRecDepth 20000 in
theorem ggX2_leaks_X3_cell : GoodIn wsX2_leaks wsX3_cell := goodIn_r _ [5] (by decide +kernel) (by decide +kernel)
set_option maxRecDepth 20000 in
theorem gX2_leaks_X3_cell_n55 : GoodIn wsX2_leaks (wsX3_cell) := ggX2_leaks_X3_cell
set_option maxRecDepth 20000 in
theorem ggX2_leaks_X2_isThere : GoodIn wsX2_leaks wsX2_isThere := goodIn_r _ [10, 11, 3, 4, 5, 12, 13, 14, 15, 16, 17, 18, 19, 20, 21] (by decide +kernel) (by decide +kernel)
set_option maxRecDepth 20000 in
theorem gX2_leaks_X2_isThere : GoodIn wsX2_leaks (wsV RX2 59 RX2 yX2_isThere wsX2_isThere) := goodIn_app (goodIn_of _ (by decide +kernel)) ggX2_leaks_X2_isThere
theorem dX2_leaks_0 : decode cX2_leaks 0 = .ok (.iconst 0, 1) := by decide +kernel
theorem dX2_leaks_1 : decode cX2_leaks 1 = .ok (.istore_n 2, 1) := by decide +kernel
theorem dX2_leaks_2 : decode cX2_leaks 2 = .ok (.iconst 0, 1) := by decide +kernel
theorem dX2_leaks_3 : decode cX2_leaks 3 = .ok (.istore_n 3, 1) := by decide +kernel
theorem dX2_leaks_4 : decode cX2_leaks 4 = .ok (.iload_n 3, 1) := by decide +kernel
theorem dX2_leaks_5 : decode cX2_leaks 5 = .ok (.aload_n 0, 1) := by decide +kernel
theorem dX2_leaks_6 : decode cX2_leaks 6 = .ok (.getfield 3, 3) := by decide +kernel
theorem dX2_leaks_9 : decode cX2_leaks 9 = .ok (.getfield 78, 3) := by decide +kernel
theorem dX2_leaks_12 : decode cX2_leaks 12 = .ok (.iload_n 1, 1) := by decide +kernel
theorem dX2_leaks_13 : decode cX2_leaks 13 = .ok (.iaload, 1) := by decide +kernel
theorem dX2_leaks_14 : decode cX2_leaks 14 = .ok (.if_icmp .ge 97, 3) := by decide +kernel
theorem dX2_leaks_17 : decode cX2_leaks 17 = .ok (.iconst 0, 1) := by decide +kernel
theorem dX2_leaks_18 : decode cX2_leaks 18 = .ok (.istore 4, 2) := by decide +kernel
theorem dX2_leaks_20 : decode cX2_leaks 20 = .ok (.iconst 0, 1) := by decide +kernel
theorem dX2_leaks_21 : decode cX2_leaks 21 = .ok (.istore 5, 2) := by decide +kernel
theorem dX2_leaks_23 : decode cX2_leaks 23 = .ok (.iload 5, 2) := by decide +kernel
theorem dX2_leaks_25 : decode cX2_leaks 25 = .ok (.aload_n 0, 1) := by decide +kernel
theorem dX2_leaks_26 : decode cX2_leaks 26 = .ok (.getfield 3, 3) := by decide +kernel
theorem dX2_leaks_29 : decode cX2_leaks 29 = .ok (.getfield 63, 3) := by decide +kernel
theorem dX2_leaks_32 : decode cX2_leaks 32 = .ok (.iload_n 1, 1) := by decide +kernel
theorem dX2_leaks_33 : decode cX2_leaks 33 = .ok (.iaload, 1) := by decide +kernel
theorem dX2_leaks_34 : decode cX2_leaks 34 = .ok (.if_icmp .ge 26, 3) := by decide +kernel
theorem dX2_leaks_37 : decode cX2_leaks 37 = .ok (.iload 4, 2) := by decide +kernel
theorem dX2_leaks_39 : decode cX2_leaks 39 = .ok (.aload_n 0, 1) := by decide +kernel
theorem dX2_leaks_40 : decode cX2_leaks 40 = .ok (.getfield 28, 3) := by decide +kernel
theorem dX2_leaks_43 : decode cX2_leaks 43 = .ok (.iload_n 1, 1) := by decide +kernel
theorem dX2_leaks_44 : decode cX2_leaks 44 = .ok (.iload 5, 2) := by decide +kernel
theorem dX2_leaks_46 : decode cX2_leaks 46 = .ok (.iload_n 3, 1) := by decide +kernel
theorem dX2_leaks_47 : decode cX2_leaks 47 = .ok (.invokestatic 55, 3) := by decide +kernel
theorem dX2_leaks_50 : decode cX2_leaks 50 = .ok (.iaload, 1) := by decide +kernel
theorem dX2_leaks_51 : decode cX2_leaks 51 = .ok (.iadd, 1) := by decide +kernel
theorem dX2_leaks_52 : decode cX2_leaks 52 = .ok (.istore 4, 2) := by decide +kernel
theorem dX2_leaks_54 : decode cX2_leaks 54 = .ok (.iinc 5 1, 3) := by decide +kernel
theorem dX2_leaks_57 : decode cX2_leaks 57 = .ok (.goto (-34), 3) := by decide +kernel
theorem dX2_leaks_60 : decode cX2_leaks 60 = .ok (.iload_n 2, 1) := by decide +kernel
theorem dX2_leaks_61 : decode cX2_leaks 61 = .ok (.iload 4, 2) := by decide +kernel
theorem dX2_leaks_63 : decode cX2_leaks 63 = .ok (.bipush 8, 2) := by decide +kernel
theorem dX2_leaks_65 : decode cX2_leaks 65 = .ok (.aload_n 0, 1) := by decide +kernel
theorem dX2_leaks_66 : decode cX2_leaks 66 = .ok (.getfield 3, 3) := by decide +kernel
theorem dX2_leaks_69 : decode cX2_leaks 69 = .ok (.getfield 63, 3) := by decide +kernel
theorem dX2_leaks_72 : decode cX2_leaks 72 = .ok (.iload_n 1, 1) := by decide +kernel
theorem dX2_leaks_73 : decode cX2_leaks 73 = .ok (.iaload, 1) := by decide +kernel
theorem dX2_leaks_74 : decode cX2_leaks 74 = .ok (.imul, 1) := by decide +kernel
theorem dX2_leaks_75 : decode cX2_leaks 75 = .ok (.if_icmp .lt 23, 3) := by decide +kernel
theorem dX2_leaks_78 : decode cX2_leaks 78 = .ok (.aload_n 0, 1) := by decide +kernel
theorem dX2_leaks_79 : decode cX2_leaks 79 = .ok (.iload_n 1, 1) := by decide +kernel
theorem dX2_leaks_80 : decode cX2_leaks 80 = .ok (.aload_n 0, 1) := by decide +kernel
theorem dX2_leaks_81 : decode cX2_leaks 81 = .ok (.getfield 3, 3) := by decide +kernel
theorem dX2_leaks_84 : decode cX2_leaks 84 = .ok (.getfield 63, 3) := by decide +kernel
theorem dX2_leaks_87 : decode cX2_leaks 87 = .ok (.iload_n 1, 1) := by decide +kernel
theorem dX2_leaks_88 : decode cX2_leaks 88 = .ok (.iaload, 1) := by decide +kernel
theorem dX2_leaks_89 : decode cX2_leaks 89 = .ok (.iconst 1, 1) := by decide +kernel
theorem dX2_leaks_90 : decode cX2_leaks 90 = .ok (.isub, 1) := by decide +kernel
theorem dX2_leaks_91 : decode cX2_leaks 91 = .ok (.iload_n 3, 1) := by decide +kernel
theorem dX2_leaks_92 : decode cX2_leaks 92 = .ok (.invokevirtual 59, 3) := by decide +kernel
theorem dX2_leaks_95 : decode cX2_leaks 95 = .ok (.ifCond .ne 7, 3) := by decide +kernel
theorem dX2_leaks_98 : decode cX2_leaks 98 = .ok (.iconst 1, 1) := by decide +kernel
theorem dX2_leaks_99 : decode cX2_leaks 99 = .ok (.goto 4, 3) := by decide +kernel
theorem dX2_leaks_102 : decode cX2_leaks 102 = .ok (.iconst 0, 1) := by decide +kernel
theorem dX2_leaks_103 : decode cX2_leaks 103 = .ok (.iadd, 1) := by decide +kernel
theorem dX2_leaks_104 : decode cX2_leaks 104 = .ok (.istore_n 2, 1) := by decide +kernel
theorem dX2_leaks_105 : decode cX2_leaks 105 = .ok (.iinc 3 1, 3) := by decide +kernel
theorem dX2_leaks_108 : decode cX2_leaks 108 = .ok (.goto (-104), 3) := by decide +kernel
theorem dX2_leaks_111 : decode cX2_leaks 111 = .ok (.iload_n 2, 1) := by decide +kernel
theorem dX2_leaks_112 : decode cX2_leaks 112 = .ok (.ireturn, 1) := by decide +kernel
set_option maxRecDepth 20000 in
theorem ggX3_init_X2_init : GoodIn wsX3_init wsX2_init := goodIn_r _ [18, 19, 20, 2, 3, 4, 21, 22, 23, 24, 25, 26, 27, 28, 29, 40, 41, 42, 43, 44, 45, 46, 47, 48, 49] (by decide +kernel) (by decide +kernel)
set_option maxRecDepth 20000 in
theorem gX3_init_X2_init : GoodIn wsX3_init (wsX2_init) := ggX3_init_X2_init
