theorem dX0_init_0 : decode cX0_init 0 = .ok (.aload_n 0, 1) := by decide +kernel
theorem dX0_init_1 : decode cX0_init 1 = .ok (.invokespecial 3, 3) := by decide +kernel
theorem dX0_init_4 : decode cX0_init 4 = .ok (.aload_n 0, 1) := by decide +kernel
theorem dX0_init_5 : decode cX0_init 5 = .ok (.bipush 60, 2) := by decide +kernel
theorem dX0_init_7 : decode cX0_init 7 = .ok (.newarray .int, 2) := by decide +kernel
theorem dX0_init_9 : decode cX0_init 9 = .ok (.putfield 9, 3) := by decide +kernel
theorem dX0_init_12 : decode cX0_init 12 = .ok (.aload_n 0, 1) := by decide +kernel
theorem dX0_init_13 : decode cX0_init 13 = .ok (.bipush 60, 2) := by decide +kernel
theorem dX0_init_15 : decode cX0_init 15 = .ok (.newarray .int, 2) := by decide +kernel
theorem dX0_init_17 : decode cX0_init 17 = .ok (.putfield 15, 3) := by decide +kernel
theorem dX0_init_20 : decode cX0_init 20 = .ok (.aload_n 0, 1) := by decide +kernel
theorem dX0_init_21 : decode cX0_init 21 = .ok (.bipush 60, 2) := by decide +kernel
theorem dX0_init_23 : decode cX0_init 23 = .ok (.newarray .int, 2) := by decide +kernel
theorem dX0_init_25 : decode cX0_init 25 = .ok (.putfield 18, 3) := by decide +kernel
theorem dX0_init_28 : decode cX0_init 28 = .ok (.aload_n 0, 1) := by decide +kernel
theorem dX0_init_29 : decode cX0_init 29 = .ok (.bipush 60, 2) := by decide +kernel
theorem dX0_init_31 : decode cX0_init 31 = .ok (.newarray .int, 2) := by decide +kernel
theorem dX0_init_33 : decode cX0_init 33 = .ok (.putfield 21, 3) := by decide +kernel
theorem dX0_init_36 : decode cX0_init 36 = .ok (.aload_n 0, 1) := by decide +kernel
theorem dX0_init_37 : decode cX0_init 37 = .ok (.iload_n 1, 1) := by decide +kernel
theorem dX0_init_38 : decode cX0_init 38 = .ok (.putfield 24, 3) := by decide +kernel
theorem dX0_init_41 : decode cX0_init 41 = .ok (.aload_n 0, 1) := by decide +kernel
theorem dX0_init_42 : decode cX0_init 42 = .ok (.iload_n 2, 1) := by decide +kernel
theorem dX0_init_43 : decode cX0_init 43 = .ok (.putfield 28, 3) := by decide +kernel
theorem dX0_init_46 : decode cX0_init 46 = .ok (.aload_n 0, 1) := by decide +kernel
theorem dX0_init_47 : decode cX0_init 47 = .ok (.iload_n 3, 1) := by decide +kernel
theorem dX0_init_48 : decode cX0_init 48 = .ok (.putfield 31, 3) := by decide +kernel
theorem dX0_init_51 : decode cX0_init 51 = .ok (.aload_n 0, 1) := by decide +kernel
theorem dX0_init_52 : decode cX0_init 52 = .ok (.bipush 100, 2) := by decide +kernel
theorem dX0_init_54 : decode cX0_init 54 = .ok (.putfield 34, 3) := by decide +kernel
theorem dX0_init_57 : decode cX0_init 57 = .ok (.return_, 1) := by decide +kernel
theorem dX0_becomeLike_0 : decode cX0_becomeLike 0 = .ok (.aload_n 0, 1) := by decide +kernel
theorem dX0_becomeLike_1 : decode cX0_becomeLike 1 = .ok (.aload_n 1, 1) := by decide +kernel
theorem dX0_becomeLike_2 : decode cX0_becomeLike 2 = .ok (.getfield 24, 3) := by decide +kernel
theorem dX0_becomeLike_5 : decode cX0_becomeLike 5 = .ok (.putfield 24, 3) := by decide +kernel
theorem dX0_becomeLike_8 : decode cX0_becomeLike 8 = .ok (.aload_n 0, 1) := by decide +kernel
theorem dX0_becomeLike_9 : decode cX0_becomeLike 9 = .ok (.aload_n 1, 1) := by decide +kernel
theorem dX0_becomeLike_10 : decode cX0_becomeLike 10 = .ok (.getfield 28, 3) := by decide +kernel
theorem dX0_becomeLike_13 : decode cX0_becomeLike 13 = .ok (.putfield 28, 3) := by decide +kernel
theorem dX0_becomeLike_16 : decode cX0_becomeLike 16 = .ok (.aload_n 0, 1) := by decide +kernel
theorem dX0_becomeLike_17 : decode cX0_becomeLike 17 = .ok (.aload_n 1, 1) := by decide +kernel
theorem dX0_becomeLike_18 : decode cX0_becomeLike 18 = .ok (.getfield 31, 3) := by decide +kernel
theorem dX0_becomeLike_21 : decode cX0_becomeLike 21 = .ok (.putfield 31, 3) := by decide +kernel
theorem dX0_becomeLike_24 : decode cX0_becomeLike 24 = .ok (.aload_n 0, 1) := by decide +kernel
theorem dX0_becomeLike_25 : decode cX0_becomeLike 25 = .ok (.aload_n 1, 1) := by decide +kernel
theorem dX0_becomeLike_26 : decode cX0_becomeLike 26 = .ok (.getfield 34, 3) := by decide +kernel
theorem dX0_becomeLike_29 : decode cX0_becomeLike 29 = .ok (.putfield 34, 3) := by decide +kernel
theorem dX0_becomeLike_32 : decode cX0_becomeLike 32 = .ok (.aload_n 1, 1) := by decide +kernel
theorem dX0_becomeLike_33 : decode cX0_becomeLike 33 = .ok (.getfield 9, 3) := by decide +kernel
theorem dX0_becomeLike_36 : decode cX0_becomeLike 36 = .ok (.iconst 0, 1) := by decide +kernel
theorem dX0_becomeLike_37 : decode cX0_becomeLike 37 = .ok (.aload_n 0, 1) := by decide +kernel
theorem dX0_becomeLike_38 : decode cX0_becomeLike 38 = .ok (.getfield 9, 3) := by decide +kernel
theorem dX0_becomeLike_41 : decode cX0_becomeLike 41 = .ok (.iconst 0, 1) := by decide +kernel
theorem dX0_becomeLike_42 : decode cX0_becomeLike 42 = .ok (.bipush 60, 2) := by decide +kernel
theorem dX0_becomeLike_44 : decode cX0_becomeLike 44 = .ok (.invokestatic 37, 3) := by decide +kernel
theorem dX0_becomeLike_47 : decode cX0_becomeLike 47 = .ok (.aload_n 1, 1) := by decide +kernel
theorem dX0_becomeLike_48 : decode cX0_becomeLike 48 = .ok (.getfield 15, 3) := by decide +kernel
theorem dX0_becomeLike_51 : decode cX0_becomeLike 51 = .ok (.iconst 0, 1) := by decide +kernel
theorem dX0_becomeLike_52 : decode cX0_becomeLike 52 = .ok (.aload_n 0, 1) := by decide +kernel
theorem dX0_becomeLike_53 : decode cX0_becomeLike 53 = .ok (.getfield 15, 3) := by decide +kernel
theorem dX0_becomeLike_56 : decode cX0_becomeLike 56 = .ok (.iconst 0, 1) := by decide +kernel
theorem dX0_becomeLike_57 : decode cX0_becomeLike 57 = .ok (.bipush 60, 2) := by decide +kernel
theorem dX0_becomeLike_59 : decode cX0_becomeLike 59 = .ok (.invokestatic 37, 3) := by decide +kernel
theorem dX0_becomeLike_62 : decode cX0_becomeLike 62 = .ok (.aload_n 1, 1) := by decide +kernel
theorem dX0_becomeLike_63 : decode cX0_becomeLike 63 = .ok (.getfield 18, 3) := by decide +kernel
theorem dX0_becomeLike_66 : decode cX0_becomeLike 66 = .ok (.iconst 0, 1) := by decide +kernel
theorem dX0_becomeLike_67 : decode cX0_becomeLike 67 = .ok (.aload_n 0, 1) := by decide +kernel
theorem dX0_becomeLike_68 : decode cX0_becomeLike 68 = .ok (.getfield 18, 3) := by decide +kernel
theorem dX0_becomeLike_71 : decode cX0_becomeLike 71 = .ok (.iconst 0, 1) := by decide +kernel
theorem dX0_becomeLike_72 : decode cX0_becomeLike 72 = .ok (.bipush 60, 2) := by decide +kernel
theorem dX0_becomeLike_74 : decode cX0_becomeLike 74 = .ok (.invokestatic 37, 3) := by decide +kernel
theorem dX0_becomeLike_77 : decode cX0_becomeLike 77 = .ok (.aload_n 1, 1) := by decide +kernel
theorem dX0_becomeLike_78 : decode cX0_becomeLike 78 = .ok (.getfield 21, 3) := by decide +kernel
theorem dX0_becomeLike_81 : decode cX0_becomeLike 81 = .ok (.iconst 0, 1) := by decide +kernel
theorem dX0_becomeLike_82 : decode cX0_becomeLike 82 = .ok (.aload_n 0, 1) := by decide +kernel
theorem dX0_becomeLike_83 : decode cX0_becomeLike 83 = .ok (.getfield 21, 3) := by decide +kernel
theorem dX0_becomeLike_86 : decode cX0_becomeLike 86 = .ok (.iconst 0, 1) := by decide +kernel
theorem dX0_becomeLike_87 : decode cX0_becomeLike 87 = .ok (.bipush 60, 2) := by decide +kernel
theorem dX0_becomeLike_89 : decode cX0_becomeLike 89 = .ok (.invokestatic 37, 3) := by decide +kernel
theorem dX0_becomeLike_92 : decode cX0_becomeLike 92 = .ok (.return_, 1) := by decide +kernel
theorem dX0_wide_0 : decode cX0_wide 0 = .ok (.aload_n 0, 1) := by decide +kernel
theorem dX0_wide_1 : decode cX0_wide 1 = .ok (.getfield 24, 3) := by decide +kernel
theorem dX0_wide_4 : decode cX0_wide 4 = .ok (.ireturn, 1) := by decide +kernel
theorem dX0_high_0 : decode cX0_high 0 = .ok (.aload_n 0, 1) := by decide +kernel
theorem dX0_high_1 : decode cX0_high 1 = .ok (.getfield 28, 3) := by decide +kernel
theorem dX0_high_4 : decode cX0_high 4 = .ok (.ireturn, 1) := by decide +kernel
theorem dX0_ridgeLeft_0 : decode cX0_ridgeLeft 0 = .ok (.aload_n 0, 1) := by decide +kernel
theorem dX0_ridgeLeft_1 : decode cX0_ridgeLeft 1 = .ok (.getfield 34, 3) := by decide +kernel
theorem dX0_ridgeLeft_4 : decode cX0_ridgeLeft 4 = .ok (.ireturn, 1) := by decide +kernel
theorem dX0_hasCourse_0 : decode cX0_hasCourse 0 = .ok (.iload_n 1, 1) := by decide +kernel
theorem dX0_hasCourse_1 : decode cX0_hasCourse 1 = .ok (.ifCond .lt 15, 3) := by decide +kernel
theorem dX0_hasCourse_4 : decode cX0_hasCourse 4 = .ok (.iload_n 1, 1) := by decide +kernel
theorem dX0_hasCourse_5 : decode cX0_hasCourse 5 = .ok (.aload_n 0, 1) := by decide +kernel
theorem dX0_hasCourse_6 : decode cX0_hasCourse 6 = .ok (.getfield 28, 3) := by decide +kernel
theorem dX0_hasCourse_9 : decode cX0_hasCourse 9 = .ok (.if_icmp .ge 7, 3) := by decide +kernel
theorem dX0_hasCourse_12 : decode cX0_hasCourse 12 = .ok (.iconst 1, 1) := by decide +kernel
theorem dX0_hasCourse_13 : decode cX0_hasCourse 13 = .ok (.goto 4, 3) := by decide +kernel
theorem dX0_hasCourse_16 : decode cX0_hasCourse 16 = .ok (.iconst 0, 1) := by decide +kernel
theorem dX0_hasCourse_17 : decode cX0_hasCourse 17 = .ok (.ireturn, 1) := by decide +kernel
set_option maxRecDepth 20000 in
theorem ggX0_hasPlace_X0_hasCourse : GoodIn wsX0_hasPlace wsX0_hasCourse := goodIn_r _ [6, 7, 8, 9, 10, 11, 12, 13, 14, 15, 16, 17] (by decide +kernel) (by decide +kernel)
set_option maxRecDepth 20000 in
theorem gX0_hasPlace_X0_hasCourse : GoodIn wsX0_hasPlace (wsV RX0 43 RX0 yX0_hasCourse wsX0_hasCourse) := goodIn_app (goodIn_of _ (by decide +kernel)) ggX0_hasPlace_X0_hasCourse
theorem dX0_hasPlace_0 : decode cX0_hasPlace 0 = .ok (.aload_n 0, 1) := by decide +kernel
theorem dX0_hasPlace_1 : decode cX0_hasPlace 1 = .ok (.iload_n 1, 1) := by decide +kernel
theorem dX0_hasPlace_2 : decode cX0_hasPlace 2 = .ok (.invokevirtual 43, 3) := by decide +kernel
theorem dX0_hasPlace_5 : decode cX0_hasPlace 5 = .ok (.ifCond .eq 19, 3) := by decide +kernel
theorem dX0_hasPlace_8 : decode cX0_hasPlace 8 = .ok (.iload_n 2, 1) := by decide +kernel
theorem dX0_hasPlace_9 : decode cX0_hasPlace 9 = .ok (.ifCond .lt 15, 3) := by decide +kernel
theorem dX0_hasPlace_12 : decode cX0_hasPlace 12 = .ok (.iload_n 2, 1) := by decide +kernel
theorem dX0_hasPlace_13 : decode cX0_hasPlace 13 = .ok (.aload_n 0, 1) := by decide +kernel
theorem dX0_hasPlace_14 : decode cX0_hasPlace 14 = .ok (.getfield 24, 3) := by decide +kernel
theorem dX0_hasPlace_17 : decode cX0_hasPlace 17 = .ok (.if_icmp .ge 7, 3) := by decide +kernel
theorem dX0_hasPlace_20 : decode cX0_hasPlace 20 = .ok (.iconst 1, 1) := by decide +kernel
theorem dX0_hasPlace_21 : decode cX0_hasPlace 21 = .ok (.goto 4, 3) := by decide +kernel
theorem dX0_hasPlace_24 : decode cX0_hasPlace 24 = .ok (.iconst 0, 1) := by decide +kernel
theorem dX0_hasPlace_25 : decode cX0_hasPlace 25 = .ok (.ireturn, 1) := by decide +kernel
theorem dX0_numberOf_0 : decode cX0_numberOf 0 = .ok (.iload_n 1, 1) := by decide +kernel
theorem dX0_numberOf_1 : decode cX0_numberOf 1 = .ok (.aload_n 0, 1) := by decide +kernel
theorem dX0_numberOf_2 : decode cX0_numberOf 2 = .ok (.getfield 24, 3) := by decide +kernel
theorem dX0_numberOf_5 : decode cX0_numberOf 5 = .ok (.imul, 1) := by decide +kernel
theorem dX0_numberOf_6 : decode cX0_numberOf 6 = .ok (.iload_n 2, 1) := by decide +kernel
theorem dX0_numberOf_7 : decode cX0_numberOf 7 = .ok (.iadd, 1) := by decide +kernel
theorem dX0_numberOf_8 : decode cX0_numberOf 8 = .ok (.ireturn, 1) := by decide +kernel
theorem dX0_isHighest_0 : decode cX0_isHighest 0 = .ok (.iload_n 1, 1) := by decide +kernel
theorem dX0_isHighest_1 : decode cX0_isHighest 1 = .ok (.aload_n 0, 1) := by decide +kernel
theorem dX0_isHighest_2 : decode cX0_isHighest 2 = .ok (.getfield 28, 3) := by decide +kernel
theorem dX0_isHighest_5 : decode cX0_isHighest 5 = .ok (.iconst 1, 1) := by decide +kernel
theorem dX0_isHighest_6 : decode cX0_isHighest 6 = .ok (.isub, 1) := by decide +kernel
theorem dX0_isHighest_7 : decode cX0_isHighest 7 = .ok (.if_icmp .ne 7, 3) := by decide +kernel
theorem dX0_isHighest_10 : decode cX0_isHighest 10 = .ok (.iconst 1, 1) := by decide +kernel
theorem dX0_isHighest_11 : decode cX0_isHighest 11 = .ok (.goto 4, 3) := by decide +kernel
theorem dX0_isHighest_14 : decode cX0_isHighest 14 = .ok (.iconst 0, 1) := by decide +kernel
theorem dX0_isHighest_15 : decode cX0_isHighest 15 = .ok (.ireturn, 1) := by decide +kernel
theorem dX0_isEnd_0 : decode cX0_isEnd 0 = .ok (.iload_n 1, 1) := by decide +kernel
theorem dX0_isEnd_1 : decode cX0_isEnd 1 = .ok (.ifCond .eq 13, 3) := by decide +kernel
theorem dX0_isEnd_4 : decode cX0_isEnd 4 = .ok (.iload_n 1, 1) := by decide +kernel
theorem dX0_isEnd_5 : decode cX0_isEnd 5 = .ok (.aload_n 0, 1) := by decide +kernel
theorem dX0_isEnd_6 : decode cX0_isEnd 6 = .ok (.getfield 24, 3) := by decide +kernel
theorem dX0_isEnd_9 : decode cX0_isEnd 9 = .ok (.iconst 1, 1) := by decide +kernel
theorem dX0_isEnd_10 : decode cX0_isEnd 10 = .ok (.isub, 1) := by decide +kernel
theorem dX0_isEnd_11 : decode cX0_isEnd 11 = .ok (.if_icmp .ne 7, 3) := by decide +kernel
theorem dX0_isEnd_14 : decode cX0_isEnd 14 = .ok (.iconst 1, 1) := by decide +kernel
theorem dX0_isEnd_15 : decode cX0_isEnd 15 = .ok (.goto 4, 3) := by decide +kernel
theorem dX0_isEnd_18 : decode cX0_isEnd 18 = .ok (.iconst 0, 1) := by decide +kernel
theorem dX0_isEnd_19 : decode cX0_isEnd 19 = .ok (.ireturn, 1) := by decide +kernel
theorem dX0_thicknessAt_0 : decode cX0_thicknessAt 0 = .ok (.iload_n 1, 1) := by decide +kernel
theorem dX0_thicknessAt_1 : decode cX0_thicknessAt 1 = .ok (.ifCond .lt 23, 3) := by decide +kernel
theorem dX0_thicknessAt_4 : decode cX0_thicknessAt 4 = .ok (.iload_n 1, 1) := by decide +kernel
theorem dX0_thicknessAt_5 : decode cX0_thicknessAt 5 = .ok (.aload_n 0, 1) := by decide +kernel
theorem dX0_thicknessAt_6 : decode cX0_thicknessAt 6 = .ok (.getfield 28, 3) := by decide +kernel
theorem dX0_thicknessAt_9 : decode cX0_thicknessAt 9 = .ok (.if_icmp .ge 15, 3) := by decide +kernel
theorem dX0_thicknessAt_12 : decode cX0_thicknessAt 12 = .ok (.iload_n 2, 1) := by decide +kernel
theorem dX0_thicknessAt_13 : decode cX0_thicknessAt 13 = .ok (.ifCond .lt 11, 3) := by decide +kernel
theorem dX0_thicknessAt_16 : decode cX0_thicknessAt 16 = .ok (.iload_n 2, 1) := by decide +kernel
theorem dX0_thicknessAt_17 : decode cX0_thicknessAt 17 = .ok (.aload_n 0, 1) := by decide +kernel
theorem dX0_thicknessAt_18 : decode cX0_thicknessAt 18 = .ok (.getfield 24, 3) := by decide +kernel
theorem dX0_thicknessAt_21 : decode cX0_thicknessAt 21 = .ok (.if_icmp .lt 5, 3) := by decide +kernel
theorem dX0_thicknessAt_24 : decode cX0_thicknessAt 24 = .ok (.iconst 0, 1) := by decide +kernel
theorem dX0_thicknessAt_25 : decode cX0_thicknessAt 25 = .ok (.ireturn, 1) := by decide +kernel
theorem dX0_thicknessAt_26 : decode cX0_thicknessAt 26 = .ok (.aload_n 0, 1) := by decide +kernel
theorem dX0_thicknessAt_27 : decode cX0_thicknessAt 27 = .ok (.getfield 15, 3) := by decide +kernel
theorem dX0_thicknessAt_30 : decode cX0_thicknessAt 30 = .ok (.iload_n 1, 1) := by decide +kernel
theorem dX0_thicknessAt_31 : decode cX0_thicknessAt 31 = .ok (.aload_n 0, 1) := by decide +kernel
theorem dX0_thicknessAt_32 : decode cX0_thicknessAt 32 = .ok (.getfield 24, 3) := by decide +kernel
theorem dX0_thicknessAt_35 : decode cX0_thicknessAt 35 = .ok (.imul, 1) := by decide +kernel
theorem dX0_thicknessAt_36 : decode cX0_thicknessAt 36 = .ok (.iload_n 2, 1) := by decide +kernel
theorem dX0_thicknessAt_37 : decode cX0_thicknessAt 37 = .ok (.iadd, 1) := by decide +kernel
theorem dX0_thicknessAt_38 : decode cX0_thicknessAt 38 = .ok (.iaload, 1) := by decide +kernel
theorem dX0_thicknessAt_39 : decode cX0_thicknessAt 39 = .ok (.ireturn, 1) := by decide +kernel
set_option maxRecDepth 20000 in
theorem ggX0_hasYealm_X0_thicknessAt : GoodIn wsX0_hasYealm wsX0_thicknessAt := goodIn_r _ [5, 6, 7, 8, 9, 10, 11, 12, 13, 14, 15, 16, 17, 18] (by decide +kernel) (by decide +kernel)
set_option maxRecDepth 20000 in
theorem gX0_hasYealm_X0_thicknessAt : GoodIn wsX0_hasYealm (wsV RX0 47 RX0 yX0_thicknessAt wsX0_thicknessAt) := goodIn_app (goodIn_of _ (by decide +kernel)) ggX0_hasYealm_X0_thicknessAt
theorem dX0_hasYealm_0 : decode cX0_hasYealm 0 = .ok (.aload_n 0, 1) := by decide +kernel
theorem dX0_hasYealm_1 : decode cX0_hasYealm 1 = .ok (.iload_n 1, 1) := by decide +kernel
theorem dX0_hasYealm_2 : decode cX0_hasYealm 2 = .ok (.iload_n 2, 1) := by decide +kernel
theorem dX0_hasYealm_3 : decode cX0_hasYealm 3 = .ok (.invokevirtual 47, 3) := by decide +kernel
theorem dX0_hasYealm_6 : decode cX0_hasYealm 6 = .ok (.ifCond .le 7, 3) := by decide +kernel
theorem dX0_hasYealm_9 : decode cX0_hasYealm 9 = .ok (.iconst 1, 1) := by decide +kernel
theorem dX0_hasYealm_10 : decode cX0_hasYealm 10 = .ok (.goto 4, 3) := by decide +kernel
theorem dX0_hasYealm_13 : decode cX0_hasYealm 13 = .ok (.iconst 0, 1) := by decide +kernel
theorem dX0_hasYealm_14 : decode cX0_hasYealm 14 = .ok (.ireturn, 1) := by decide +kernel
set_option maxRecDepth 20000 in
theorem ggX0_canCarry_X0_hasYealm : GoodIn wsX0_canCarry wsX0_hasYealm := goodIn_r _ [5, 6, 7, 8, 4, 9, 10, 11, 12, 13, 14, 15, 16, 17, 18, 19, 20, 21, 22] (by decide +kernel) (by decide +kernel)
set_option maxRecDepth 20000 in
theorem gX0_canCarry_X0_hasYealm : GoodIn wsX0_canCarry (wsV RX0 51 RX0 yX0_hasYealm wsX0_hasYealm) := goodIn_app (goodIn_of _ (by decide +kernel)) ggX0_canCarry_X0_hasYealm
theorem dX0_canCarry_0 : decode cX0_canCarry 0 = .ok (.aload_n 0, 1) := by decide +kernel
theorem dX0_canCarry_1 : decode cX0_canCarry 1 = .ok (.iload_n 1, 1) := by decide +kernel
theorem dX0_canCarry_2 : decode cX0_canCarry 2 = .ok (.iload_n 2, 1) := by decide +kernel
theorem dX0_canCarry_3 : decode cX0_canCarry 3 = .ok (.invokevirtual 51, 3) := by decide +kernel
theorem dX0_canCarry_6 : decode cX0_canCarry 6 = .ok (.ifCond .ne 22, 3) := by decide +kernel
theorem dX0_canCarry_9 : decode cX0_canCarry 9 = .ok (.iload_n 1, 1) := by decide +kernel
theorem dX0_canCarry_10 : decode cX0_canCarry 10 = .ok (.ifCond .eq 14, 3) := by decide +kernel
theorem dX0_canCarry_13 : decode cX0_canCarry 13 = .ok (.aload_n 0, 1) := by decide +kernel
theorem dX0_canCarry_14 : decode cX0_canCarry 14 = .ok (.iload_n 1, 1) := by decide +kernel
theorem dX0_canCarry_15 : decode cX0_canCarry 15 = .ok (.iconst 1, 1) := by decide +kernel
theorem dX0_canCarry_16 : decode cX0_canCarry 16 = .ok (.isub, 1) := by decide +kernel
theorem dX0_canCarry_17 : decode cX0_canCarry 17 = .ok (.iload_n 2, 1) := by decide +kernel
theorem dX0_canCarry_18 : decode cX0_canCarry 18 = .ok (.invokevirtual 51, 3) := by decide +kernel
theorem dX0_canCarry_21 : decode cX0_canCarry 21 = .ok (.ifCond .eq 7, 3) := by decide +kernel
theorem dX0_canCarry_24 : decode cX0_canCarry 24 = .ok (.iconst 1, 1) := by decide +kernel
theorem dX0_canCarry_25 : decode cX0_canCarry 25 = .ok (.goto 4, 3) := by decide +kernel
theorem dX0_canCarry_28 : decode cX0_canCarry 28 = .ok (.iconst 0, 1) := by decide +kernel
theorem dX0_canCarry_29 : decode cX0_canCarry 29 = .ok (.ireturn, 1) := by decide +kernel
set_option maxRecDepth 20000 in
theorem ggX0_isBare_X0_isHighest : GoodIn wsX0_isBare wsX0_isHighest := goodIn_r _ [5, 6, 13, 14, 15, 16, 17, 18, 19, 20, 21, 22] (by decide +kernel) (by decide +kernel)
set_option maxRecDepth 20000 in
theorem gX0_isBare_X0_isHighest : GoodIn wsX0_isBare (wsV RX0 55 RX0 yX0_isHighest wsX0_isHighest) := goodIn_app (goodIn_of _ (by decide +kernel)) ggX0_isBare_X0_isHighest
set_option maxRecDepth 20000 in
theorem ggX0_isBare_X0_thicknessAt : GoodIn wsX0_isBare wsX0_thicknessAt := goodIn_r _ [10, 6, 11, 12, 13, 14, 15, 16, 17, 18, 19, 20, 21, 22] (by decide +kernel) (by decide +kernel)
set_option maxRecDepth 20000 in
theorem gX0_isBare_X0_thicknessAt : GoodIn wsX0_isBare (wsV RX0 47 RX0 yX0_thicknessAt wsX0_thicknessAt) := goodIn_app (goodIn_of _ (by decide +kernel)) ggX0_isBare_X0_thicknessAt
theorem dX0_isBare_0 : decode cX0_isBare 0 = .ok (.aload_n 0, 1) := by decide +kernel
theorem dX0_isBare_1 : decode cX0_isBare 1 = .ok (.iload_n 1, 1) := by decide +kernel
theorem dX0_isBare_2 : decode cX0_isBare 2 = .ok (.invokevirtual 55, 3) := by decide +kernel
theorem dX0_isBare_5 : decode cX0_isBare 5 = .ok (.ifCond .ne 18, 3) := by decide +kernel
theorem dX0_isBare_8 : decode cX0_isBare 8 = .ok (.aload_n 0, 1) := by decide +kernel
theorem dX0_isBare_9 : decode cX0_isBare 9 = .ok (.iload_n 1, 1) := by decide +kernel
theorem dX0_isBare_10 : decode cX0_isBare 10 = .ok (.iconst 1, 1) := by decide +kernel
theorem dX0_isBare_11 : decode cX0_isBare 11 = .ok (.iadd, 1) := by decide +kernel
theorem dX0_isBare_12 : decode cX0_isBare 12 = .ok (.iload_n 2, 1) := by decide +kernel
theorem dX0_isBare_13 : decode cX0_isBare 13 = .ok (.invokevirtual 47, 3) := by decide +kernel
theorem dX0_isBare_16 : decode cX0_isBare 16 = .ok (.ifCond .ne 7, 3) := by decide +kernel
theorem dX0_isBare_19 : decode cX0_isBare 19 = .ok (.iconst 1, 1) := by decide +kernel
theorem dX0_isBare_20 : decode cX0_isBare 20 = .ok (.goto 4, 3) := by decide +kernel
theorem dX0_isBare_23 : decode cX0_isBare 23 = .ok (.iconst 0, 1) := by decide +kernel
theorem dX0_isBare_24 : decode cX0_isBare 24 = .ok (.ireturn, 1) := by decide +kernel
set_option maxRecDepth 20000 in
theorem ggX0_putYealm_X0_hasPlace : GoodIn wsX0_putYealm wsX0_hasPlace := goodIn_r _ [9, 10, 11, 12, 13, 8, 14, 15, 20, 21, 22, 23, 24, 25, 26, 27, 28, 29] (by decide +kernel) (by decide +kernel)
set_option maxRecDepth 20000 in
theorem gX0_putYealm_X0_hasPlace : GoodIn wsX0_putYealm (wsV RX0 58 RX0 yX0_hasPlace wsX0_hasPlace) := goodIn_app (goodIn_of _ (by decide +kernel)) ggX0_putYealm_X0_hasPlace
set_option maxRecDepth 20000 in
theorem ggX0_putYealm_X0_numberOf : GoodIn wsX0_putYealm wsX0_numberOf := goodIn_r _ [19, 10, 20, 21, 22, 23, 24, 25, 26, 27, 28, 29] (by decide +kernel) (by decide +kernel)
set_option maxRecDepth 20000 in
theorem gX0_putYealm_X0_numberOf : GoodIn wsX0_putYealm (wsV RX0 61 RX0 yX0_numberOf wsX0_numberOf) := goodIn_app (goodIn_of _ (by decide +kernel)) ggX0_putYealm_X0_numberOf
theorem dX0_putYealm_0 : decode cX0_putYealm 0 = .ok (.aload_n 0, 1) := by decide +kernel
theorem dX0_putYealm_1 : decode cX0_putYealm 1 = .ok (.iload_n 1, 1) := by decide +kernel
theorem dX0_putYealm_2 : decode cX0_putYealm 2 = .ok (.iload_n 2, 1) := by decide +kernel
theorem dX0_putYealm_3 : decode cX0_putYealm 3 = .ok (.invokevirtual 58, 3) := by decide +kernel
theorem dX0_putYealm_6 : decode cX0_putYealm 6 = .ok (.ifCond .ne 4, 3) := by decide +kernel
theorem dX0_putYealm_9 : decode cX0_putYealm 9 = .ok (.return_, 1) := by decide +kernel
theorem dX0_putYealm_10 : decode cX0_putYealm 10 = .ok (.aload_n 0, 1) := by decide +kernel
theorem dX0_putYealm_11 : decode cX0_putYealm 11 = .ok (.iload_n 1, 1) := by decide +kernel
theorem dX0_putYealm_12 : decode cX0_putYealm 12 = .ok (.iload_n 2, 1) := by decide +kernel
theorem dX0_putYealm_13 : decode cX0_putYealm 13 = .ok (.invokevirtual 61, 3) := by decide +kernel
theorem dX0_putYealm_16 : decode cX0_putYealm 16 = .ok (.istore 6, 2) := by decide +kernel
theorem dX0_putYealm_18 : decode cX0_putYealm 18 = .ok (.aload_n 0, 1) := by decide +kernel
theorem dX0_putYealm_19 : decode cX0_putYealm 19 = .ok (.getfield 9, 3) := by decide +kernel
theorem dX0_putYealm_22 : decode cX0_putYealm 22 = .ok (.iload 6, 2) := by decide +kernel
theorem dX0_putYealm_24 : decode cX0_putYealm 24 = .ok (.iload_n 3, 1) := by decide +kernel
theorem dX0_putYealm_25 : decode cX0_putYealm 25 = .ok (.iastore, 1) := by decide +kernel
theorem dX0_putYealm_26 : decode cX0_putYealm 26 = .ok (.aload_n 0, 1) := by decide +kernel
theorem dX0_putYealm_27 : decode cX0_putYealm 27 = .ok (.getfield 15, 3) := by decide +kernel
theorem dX0_putYealm_30 : decode cX0_putYealm 30 = .ok (.iload 6, 2) := by decide +kernel
theorem dX0_putYealm_32 : decode cX0_putYealm 32 = .ok (.iload 4, 2) := by decide +kernel
theorem dX0_putYealm_34 : decode cX0_putYealm 34 = .ok (.iastore, 1) := by decide +kernel
theorem dX0_putYealm_35 : decode cX0_putYealm 35 = .ok (.aload_n 0, 1) := by decide +kernel
theorem dX0_putYealm_36 : decode cX0_putYealm 36 = .ok (.getfield 18, 3) := by decide +kernel
theorem dX0_putYealm_39 : decode cX0_putYealm 39 = .ok (.iload 6, 2) := by decide +kernel
theorem dX0_putYealm_41 : decode cX0_putYealm 41 = .ok (.iload 5, 2) := by decide +kernel
theorem dX0_putYealm_43 : decode cX0_putYealm 43 = .ok (.iastore, 1) := by decide +kernel
theorem dX0_putYealm_44 : decode cX0_putYealm 44 = .ok (.aload_n 0, 1) := by decide +kernel
theorem dX0_putYealm_45 : decode cX0_putYealm 45 = .ok (.getfield 21, 3) := by decide +kernel
theorem dX0_putYealm_48 : decode cX0_putYealm 48 = .ok (.iload 6, 2) := by decide +kernel
theorem dX0_putYealm_50 : decode cX0_putYealm 50 = .ok (.iconst 0, 1) := by decide +kernel
theorem dX0_putYealm_51 : decode cX0_putYealm 51 = .ok (.iastore, 1) := by decide +kernel
theorem dX0_putYealm_52 : decode cX0_putYealm 52 = .ok (.return_, 1) := by decide +kernel
set_option maxRecDepth 20000 in
theorem ggX0_kindAt_X0_hasYealm : GoodIn wsX0_kindAt wsX0_hasYealm := goodIn_r _ [6, 7, 8, 9, 5, 10, 11, 12, 13, 18, 19, 20, 21, 22, 23, 24, 25, 26, 27] (by decide +kernel) (by decide +kernel)
set_option maxRecDepth 20000 in
theorem gX0_kindAt_X0_hasYealm : GoodIn wsX0_kindAt (wsV RX0 51 RX0 yX0_hasYealm wsX0_hasYealm) := goodIn_app (goodIn_of _ (by decide +kernel)) ggX0_kindAt_X0_hasYealm
set_option maxRecDepth 20000 in
theorem ggX0_kindAt_X0_numberOf : GoodIn wsX0_kindAt wsX0_numberOf := goodIn_r _ [17, 12, 18, 19, 20, 21, 22, 23, 24, 25, 26, 27] (by decide +kernel) (by decide +kernel)
set_option maxRecDepth 20000 in
theorem gX0_kindAt_X0_numberOf : GoodIn wsX0_kindAt (wsV RX0 61 RX0 yX0_numberOf wsX0_numberOf) := goodIn_app (goodIn_of _ (by decide +kernel)) ggX0_kindAt_X0_numberOf
theorem dX0_kindAt_0 : decode cX0_kindAt 0 = .ok (.aload_n 0, 1) := by decide +kernel
theorem dX0_kindAt_1 : decode cX0_kindAt 1 = .ok (.iload_n 1, 1) := by decide +kernel
theorem dX0_kindAt_2 : decode cX0_kindAt 2 = .ok (.iload_n 2, 1) := by decide +kernel
theorem dX0_kindAt_3 : decode cX0_kindAt 3 = .ok (.invokevirtual 51, 3) := by decide +kernel
theorem dX0_kindAt_6 : decode cX0_kindAt 6 = .ok (.ifCond .eq 17, 3) := by decide +kernel
theorem dX0_kindAt_9 : decode cX0_kindAt 9 = .ok (.aload_n 0, 1) := by decide +kernel
theorem dX0_kindAt_10 : decode cX0_kindAt 10 = .ok (.getfield 9, 3) := by decide +kernel
theorem dX0_kindAt_13 : decode cX0_kindAt 13 = .ok (.aload_n 0, 1) := by decide +kernel
theorem dX0_kindAt_14 : decode cX0_kindAt 14 = .ok (.iload_n 1, 1) := by decide +kernel
theorem dX0_kindAt_15 : decode cX0_kindAt 15 = .ok (.iload_n 2, 1) := by decide +kernel
theorem dX0_kindAt_16 : decode cX0_kindAt 16 = .ok (.invokevirtual 61, 3) := by decide +kernel
theorem dX0_kindAt_19 : decode cX0_kindAt 19 = .ok (.iaload, 1) := by decide +kernel
theorem dX0_kindAt_20 : decode cX0_kindAt 20 = .ok (.goto 4, 3) := by decide +kernel
theorem dX0_kindAt_23 : decode cX0_kindAt 23 = .ok (.iconst (-1), 1) := by decide +kernel
theorem dX0_kindAt_24 : decode cX0_kindAt 24 = .ok (.ireturn, 1) := by decide +kernel
set_option maxRecDepth 20000 in
theorem ggX0_improve_X0_hasYealm : GoodIn wsX0_improve wsX0_hasYealm := goodIn_r _ [12, 13, 14, 15, 11, 16, 17, 18, 7, 23, 24, 25, 26, 27, 28, 29, 30, 31, 32] (by decide +kernel) (by decide +kernel)
set_option maxRecDepth 20000 in
theorem gX0_improve_X0_hasYealm : GoodIn wsX0_improve (wsV RX0 51 RX0 yX0_hasYealm wsX0_hasYealm) := goodIn_app (goodIn_of _ (by decide +kernel)) ggX0_improve_X0_hasYealm
set_option maxRecDepth 20000 in
theorem ggX0_improve_X0_numberOf : GoodIn wsX0_improve wsX0_numberOf := goodIn_r _ [22, 18, 23, 24, 25, 26, 27, 28, 29, 30, 31, 32] (by decide +kernel) (by decide +kernel)
set_option maxRecDepth 20000 in
theorem gX0_improve_X0_numberOf : GoodIn wsX0_improve (wsV RX0 61 RX0 yX0_numberOf wsX0_numberOf) := goodIn_app (goodIn_of _ (by decide +kernel)) ggX0_improve_X0_numberOf
theorem dX0_improve_0 : decode cX0_improve 0 = .ok (.aload_n 0, 1) := by decide +kernel
theorem dX0_improve_1 : decode cX0_improve 1 = .ok (.iload_n 1, 1) := by decide +kernel
theorem dX0_improve_2 : decode cX0_improve 2 = .ok (.iload_n 2, 1) := by decide +kernel
theorem dX0_improve_3 : decode cX0_improve 3 = .ok (.invokevirtual 51, 3) := by decide +kernel
theorem dX0_improve_6 : decode cX0_improve 6 = .ok (.ifCond .ne 4, 3) := by decide +kernel
theorem dX0_improve_9 : decode cX0_improve 9 = .ok (.return_, 1) := by decide +kernel
theorem dX0_improve_10 : decode cX0_improve 10 = .ok (.aload_n 0, 1) := by decide +kernel
theorem dX0_improve_11 : decode cX0_improve 11 = .ok (.iload_n 1, 1) := by decide +kernel
theorem dX0_improve_12 : decode cX0_improve 12 = .ok (.iload_n 2, 1) := by decide +kernel
theorem dX0_improve_13 : decode cX0_improve 13 = .ok (.invokevirtual 61, 3) := by decide +kernel
theorem dX0_improve_16 : decode cX0_improve 16 = .ok (.istore_n 3, 1) := by decide +kernel
theorem dX0_improve_17 : decode cX0_improve 17 = .ok (.aload_n 0, 1) := by decide +kernel
theorem dX0_improve_18 : decode cX0_improve 18 = .ok (.getfield 21, 3) := by decide +kernel
theorem dX0_improve_21 : decode cX0_improve 21 = .ok (.iload_n 3, 1) := by decide +kernel
theorem dX0_improve_22 : decode cX0_improve 22 = .ok (.iconst 0, 1) := by decide +kernel
theorem dX0_improve_23 : decode cX0_improve 23 = .ok (.iastore, 1) := by decide +kernel
theorem dX0_improve_24 : decode cX0_improve 24 = .ok (.aload_n 0, 1) := by decide +kernel
theorem dX0_improve_25 : decode cX0_improve 25 = .ok (.getfield 18, 3) := by decide +kernel
theorem dX0_improve_28 : decode cX0_improve 28 = .ok (.iload_n 3, 1) := by decide +kernel
theorem dX0_improve_29 : decode cX0_improve 29 = .ok (.aload_n 0, 1) := by decide +kernel
theorem dX0_improve_30 : decode cX0_improve 30 = .ok (.getfield 18, 3) := by decide +kernel
theorem dX0_improve_33 : decode cX0_improve 33 = .ok (.iload_n 3, 1) := by decide +kernel
theorem dX0_improve_34 : decode cX0_improve 34 = .ok (.iaload, 1) := by decide +kernel
theorem dX0_improve_35 : decode cX0_improve 35 = .ok (.iconst 2, 1) := by decide +kernel
theorem dX0_improve_36 : decode cX0_improve 36 = .ok (.iadd, 1) := by decide +kernel
theorem dX0_improve_37 : decode cX0_improve 37 = .ok (.bipush 9, 2) := by decide +kernel
theorem dX0_improve_39 : decode cX0_improve 39 = .ok (.invokestatic 64, 3) := by decide +kernel
theorem dX0_improve_42 : decode cX0_improve 42 = .ok (.iastore, 1) := by decide +kernel
theorem dX0_improve_43 : decode cX0_improve 43 = .ok (.aload_n 0, 1) := by decide +kernel
theorem dX0_improve_44 : decode cX0_improve 44 = .ok (.getfield 15, 3) := by decide +kernel
theorem dX0_improve_47 : decode cX0_improve 47 = .ok (.iload_n 3, 1) := by decide +kernel
theorem dX0_improve_48 : decode cX0_improve 48 = .ok (.aload_n 0, 1) := by decide +kernel
theorem dX0_improve_49 : decode cX0_improve 49 = .ok (.getfield 15, 3) := by decide +kernel
theorem dX0_improve_52 : decode cX0_improve 52 = .ok (.iload_n 3, 1) := by decide +kernel
theorem dX0_improve_53 : decode cX0_improve 53 = .ok (.iaload, 1) := by decide +kernel
theorem dX0_improve_54 : decode cX0_improve 54 = .ok (.bipush 10, 2) := by decide +kernel
theorem dX0_improve_56 : decode cX0_improve 56 = .ok (.iadd, 1) := by decide +kernel
theorem dX0_improve_57 : decode cX0_improve 57 = .ok (.bipush 40, 2) := by decide +kernel
theorem dX0_improve_59 : decode cX0_improve 59 = .ok (.invokestatic 64, 3) := by decide +kernel
theorem dX0_improve_62 : decode cX0_improve 62 = .ok (.iastore, 1) := by decide +kernel
theorem dX0_improve_63 : decode cX0_improve 63 = .ok (.return_, 1) := by decide +kernel
theorem dX0_renewRidge_0 : decode cX0_renewRidge 0 = .ok (.aload_n 0, 1) := by decide +kernel
theorem dX0_renewRidge_1 : decode cX0_renewRidge 1 = .ok (.getfield 34, 3) := by decide +kernel
theorem dX0_renewRidge_4 : decode cX0_renewRidge 4 = .ok (.istore_n 1, 1) := by decide +kernel
theorem dX0_renewRidge_5 : decode cX0_renewRidge 5 = .ok (.aload_n 0, 1) := by decide +kernel
theorem dX0_renewRidge_6 : decode cX0_renewRidge 6 = .ok (.bipush 100, 2) := by decide +kernel
theorem dX0_renewRidge_8 : decode cX0_renewRidge 8 = .ok (.putfield 34, 3) := by decide +kernel
theorem dX0_renewRidge_11 : decode cX0_renewRidge 11 = .ok (.iload_n 1, 1) := by decide +kernel
theorem dX0_renewRidge_12 : decode cX0_renewRidge 12 = .ok (.ireturn, 1) := by decide +kernel
set_option maxRecDepth 20000 in
theorem ggX0_tellYealm_X0_hasYealm : GoodIn wsX0_tellYealm wsX0_hasYealm := goodIn_r _ [9, 10, 11, 12, 8, 13, 14, 15, 2, 28, 29, 30, 31, 32, 33, 34, 35, 36, 37] (by decide +kernel) (by decide +kernel)
set_option maxRecDepth 20000 in
theorem gX0_tellYealm_X0_hasYealm : GoodIn wsX0_tellYealm (wsV RX0 51 RX0 yX0_hasYealm wsX0_hasYealm) := goodIn_app (goodIn_of _ (by decide +kernel)) ggX0_tellYealm_X0_hasYealm
set_option maxRecDepth 20000 in
theorem ggX0_tellYealm_X0_numberOf : GoodIn wsX0_tellYealm wsX0_numberOf := goodIn_r _ [19, 15, 28, 29, 30, 31, 32, 33, 34, 35, 36, 37] (by decide +kernel) (by decide +kernel)
set_option maxRecDepth 20000 in
theorem gX0_tellYealm_X0_numberOf : GoodIn wsX0_tellYealm (wsV RX0 61 RX0 yX0_numberOf wsX0_numberOf) := goodIn_app (goodIn_of _ (by decide +kernel)) ggX0_tellYealm_X0_numberOf
set_option maxRecDepth 20000 in
theorem ggX0_tellYealm_X0_isBare : GoodIn wsX0_tellYealm wsX0_isBare := goodIn_r _ [23, 24, 25, 26, 8, 27, 14, 10, 11, 12, 13, 15, 2, 28, 29, 30, 31, 32, 33, 34, 35, 36, 37] (by decide +kernel) (by decide +kernel)
set_option maxRecDepth 20000 in
theorem gX0_tellYealm_X0_isBare : GoodIn wsX0_tellYealm (wsV RX0 69 RX0 yX0_isBare wsX0_isBare) := goodIn_app (goodIn_of _ (by decide +kernel)) ggX0_tellYealm_X0_isBare
theorem dX0_tellYealm_0 : decode cX0_tellYealm 0 = .ok (.aload_n 0, 1) := by decide +kernel
theorem dX0_tellYealm_1 : decode cX0_tellYealm 1 = .ok (.iload_n 1, 1) := by decide +kernel
theorem dX0_tellYealm_2 : decode cX0_tellYealm 2 = .ok (.iload_n 2, 1) := by decide +kernel
theorem dX0_tellYealm_3 : decode cX0_tellYealm 3 = .ok (.invokevirtual 51, 3) := by decide +kernel
theorem dX0_tellYealm_6 : decode cX0_tellYealm 6 = .ok (.ifCond .ne 14, 3) := by decide +kernel
theorem dX0_tellYealm_9 : decode cX0_tellYealm 9 = .ok (.iload_n 3, 1) := by decide +kernel
theorem dX0_tellYealm_10 : decode cX0_tellYealm 10 = .ok (.iconst 1, 1) := by decide +kernel
theorem dX0_tellYealm_11 : decode cX0_tellYealm 11 = .ok (.if_icmp .ne 7, 3) := by decide +kernel
theorem dX0_tellYealm_14 : decode cX0_tellYealm 14 = .ok (.iconst (-1), 1) := by decide +kernel
theorem dX0_tellYealm_15 : decode cX0_tellYealm 15 = .ok (.goto 4, 3) := by decide +kernel
theorem dX0_tellYealm_18 : decode cX0_tellYealm 18 = .ok (.iconst 0, 1) := by decide +kernel
theorem dX0_tellYealm_19 : decode cX0_tellYealm 19 = .ok (.ireturn, 1) := by decide +kernel
theorem dX0_tellYealm_20 : decode cX0_tellYealm 20 = .ok (.aload_n 0, 1) := by decide +kernel
theorem dX0_tellYealm_21 : decode cX0_tellYealm 21 = .ok (.iload_n 1, 1) := by decide +kernel
theorem dX0_tellYealm_22 : decode cX0_tellYealm 22 = .ok (.iload_n 2, 1) := by decide +kernel
theorem dX0_tellYealm_23 : decode cX0_tellYealm 23 = .ok (.invokevirtual 61, 3) := by decide +kernel
theorem dX0_tellYealm_26 : decode cX0_tellYealm 26 = .ok (.istore 4, 2) := by decide +kernel
theorem dX0_tellYealm_28 : decode cX0_tellYealm 28 = .ok (.iload_n 3, 1) := by decide +kernel
theorem dX0_tellYealm_29 : decode cX0_tellYealm 29 = .ok (.tableswitch 69 0 4 #[35, 37, 45, 53, 61], 35) := by decide +kernel
theorem dX0_tellYealm_64 : decode cX0_tellYealm 64 = .ok (.iconst 1, 1) := by decide +kernel
theorem dX0_tellYealm_65 : decode cX0_tellYealm 65 = .ok (.ireturn, 1) := by decide +kernel
theorem dX0_tellYealm_66 : decode cX0_tellYealm 66 = .ok (.aload_n 0, 1) := by decide +kernel
theorem dX0_tellYealm_67 : decode cX0_tellYealm 67 = .ok (.getfield 9, 3) := by decide +kernel
theorem dX0_tellYealm_70 : decode cX0_tellYealm 70 = .ok (.iload 4, 2) := by decide +kernel
theorem dX0_tellYealm_72 : decode cX0_tellYealm 72 = .ok (.iaload, 1) := by decide +kernel
theorem dX0_tellYealm_73 : decode cX0_tellYealm 73 = .ok (.ireturn, 1) := by decide +kernel
theorem dX0_tellYealm_74 : decode cX0_tellYealm 74 = .ok (.aload_n 0, 1) := by decide +kernel
theorem dX0_tellYealm_75 : decode cX0_tellYealm 75 = .ok (.getfield 15, 3) := by decide +kernel
theorem dX0_tellYealm_78 : decode cX0_tellYealm 78 = .ok (.iload 4, 2) := by decide +kernel
theorem dX0_tellYealm_80 : decode cX0_tellYealm 80 = .ok (.iaload, 1) := by decide +kernel
theorem dX0_tellYealm_81 : decode cX0_tellYealm 81 = .ok (.ireturn, 1) := by decide +kernel
theorem dX0_tellYealm_82 : decode cX0_tellYealm 82 = .ok (.aload_n 0, 1) := by decide +kernel
theorem dX0_tellYealm_83 : decode cX0_tellYealm 83 = .ok (.getfield 18, 3) := by decide +kernel
theorem dX0_tellYealm_86 : decode cX0_tellYealm 86 = .ok (.iload 4, 2) := by decide +kernel
theorem dX0_tellYealm_88 : decode cX0_tellYealm 88 = .ok (.iaload, 1) := by decide +kernel
theorem dX0_tellYealm_89 : decode cX0_tellYealm 89 = .ok (.ireturn, 1) := by decide +kernel
theorem dX0_tellYealm_90 : decode cX0_tellYealm 90 = .ok (.aload_n 0, 1) := by decide +kernel
theorem dX0_tellYealm_91 : decode cX0_tellYealm 91 = .ok (.getfield 21, 3) := by decide +kernel
theorem dX0_tellYealm_94 : decode cX0_tellYealm 94 = .ok (.iload 4, 2) := by decide +kernel
theorem dX0_tellYealm_96 : decode cX0_tellYealm 96 = .ok (.iaload, 1) := by decide +kernel
theorem dX0_tellYealm_97 : decode cX0_tellYealm 97 = .ok (.ireturn, 1) := by decide +kernel
theorem dX0_tellYealm_98 : decode cX0_tellYealm 98 = .ok (.aload_n 0, 1) := by decide +kernel
theorem dX0_tellYealm_99 : decode cX0_tellYealm 99 = .ok (.iload_n 1, 1) := by decide +kernel
theorem dX0_tellYealm_100 : decode cX0_tellYealm 100 = .ok (.iload_n 2, 1) := by decide +kernel
theorem dX0_tellYealm_101 : decode cX0_tellYealm 101 = .ok (.invokevirtual 69, 3) := by decide +kernel
theorem dX0_tellYealm_104 : decode cX0_tellYealm 104 = .ok (.ifCond .eq 7, 3) := by decide +kernel
theorem dX0_tellYealm_107 : decode cX0_tellYealm 107 = .ok (.iconst 1, 1) := by decide +kernel
theorem dX0_tellYealm_108 : decode cX0_tellYealm 108 = .ok (.goto 4, 3) := by decide +kernel
theorem dX0_tellYealm_111 : decode cX0_tellYealm 111 = .ok (.iconst 0, 1) := by decide +kernel
theorem dX0_tellYealm_112 : decode cX0_tellYealm 112 = .ok (.ireturn, 1) := by decide +kernel
set_option maxRecDepth 20000 in
theorem ggX0_tell_X0_yealms : GoodIn wsX0_tell wsX0_yealms := goodIn_r _ [11, 2, 1, 12, 13, 14, 10, 15, 16, 17, 18, 19, 20, 33, 34, 35, 36, 37, 38, 39, 40, 41, 42] (by decide +kernel) (by decide +kernel)
set_option maxRecDepth 20000 in
theorem gX0_tell_X0_yealms : GoodIn wsX0_tell (wsV RX0 72 RX0 yX0_yealms wsX0_yealms) := goodIn_app (goodIn_of _ (by decide +kernel)) ggX0_tell_X0_yealms
set_option maxRecDepth 20000 in
theorem ggX0_tell_X0_thicknessInAll : GoodIn wsX0_tell wsX0_thicknessInAll := goodIn_r _ [24, 1, 25, 26, 27, 10, 28, 2, 16, 17, 18, 19, 20, 33, 34, 35, 36, 37, 38, 39, 40, 41, 42] (by decide +kernel) (by decide +kernel)
set_option maxRecDepth 20000 in
theorem gX0_tell_X0_thicknessInAll : GoodIn wsX0_tell (wsV RX0 76 RX0 yX0_thicknessInAll wsX0_thicknessInAll) := goodIn_app (goodIn_of _ (by decide +kernel)) ggX0_tell_X0_thicknessInAll
set_option maxRecDepth 20000 in
theorem ggX0_tell_X0_leaks : GoodIn wsX0_tell wsX0_leaks := goodIn_r _ [32, 1, 2, 25, 26, 27, 10, 28, 16, 17, 18, 19, 20, 12, 13, 14, 15, 33, 34, 35, 36, 37, 38, 39, 40, 41, 42] (by decide +kernel) (by decide +kernel)
set_option maxRecDepth 20000 in
theorem gX0_tell_X0_leaks : GoodIn wsX0_tell (wsV RX0 79 RX0 yX0_leaks wsX0_leaks) := goodIn_app (goodIn_of _ (by decide +kernel)) ggX0_tell_X0_leaks
theorem dX0_tell_0 : decode cX0_tell 0 = .ok (.iload_n 1, 1) := by decide +kernel
theorem dX0_tell_1 : decode cX0_tell 1 = .ok (.tableswitch 87 0 7 #[47, 52, 57, 62, 67, 72, 77, 82], 47) := by decide +kernel
theorem dX0_tell_48 : decode cX0_tell 48 = .ok (.aload_n 0, 1) := by decide +kernel
theorem dX0_tell_49 : decode cX0_tell 49 = .ok (.getfield 24, 3) := by decide +kernel
theorem dX0_tell_52 : decode cX0_tell 52 = .ok (.ireturn, 1) := by decide +kernel
theorem dX0_tell_53 : decode cX0_tell 53 = .ok (.aload_n 0, 1) := by decide +kernel
theorem dX0_tell_54 : decode cX0_tell 54 = .ok (.getfield 28, 3) := by decide +kernel
theorem dX0_tell_57 : decode cX0_tell 57 = .ok (.ireturn, 1) := by decide +kernel
theorem dX0_tell_58 : decode cX0_tell 58 = .ok (.aload_n 0, 1) := by decide +kernel
theorem dX0_tell_59 : decode cX0_tell 59 = .ok (.getfield 31, 3) := by decide +kernel
theorem dX0_tell_62 : decode cX0_tell 62 = .ok (.ireturn, 1) := by decide +kernel
theorem dX0_tell_63 : decode cX0_tell 63 = .ok (.aload_n 0, 1) := by decide +kernel
theorem dX0_tell_64 : decode cX0_tell 64 = .ok (.getfield 34, 3) := by decide +kernel
theorem dX0_tell_67 : decode cX0_tell 67 = .ok (.ireturn, 1) := by decide +kernel
theorem dX0_tell_68 : decode cX0_tell 68 = .ok (.aload_n 0, 1) := by decide +kernel
theorem dX0_tell_69 : decode cX0_tell 69 = .ok (.invokevirtual 72, 3) := by decide +kernel
theorem dX0_tell_72 : decode cX0_tell 72 = .ok (.ireturn, 1) := by decide +kernel
theorem dX0_tell_73 : decode cX0_tell 73 = .ok (.aload_n 0, 1) := by decide +kernel
theorem dX0_tell_74 : decode cX0_tell 74 = .ok (.invokevirtual 76, 3) := by decide +kernel
theorem dX0_tell_77 : decode cX0_tell 77 = .ok (.ireturn, 1) := by decide +kernel
theorem dX0_tell_78 : decode cX0_tell 78 = .ok (.aload_n 0, 1) := by decide +kernel
theorem dX0_tell_79 : decode cX0_tell 79 = .ok (.invokevirtual 79, 3) := by decide +kernel
theorem dX0_tell_82 : decode cX0_tell 82 = .ok (.ireturn, 1) := by decide +kernel
theorem dX0_tell_83 : decode cX0_tell 83 = .ok (.aload_n 0, 1) := by decide +kernel
theorem dX0_tell_84 : decode cX0_tell 84 = .ok (.getfield 82, 3) := by decide +kernel
theorem dX0_tell_87 : decode cX0_tell 87 = .ok (.ireturn, 1) := by decide +kernel
theorem dX0_tell_88 : decode cX0_tell 88 = .ok (.aload_n 0, 1) := by decide +kernel
theorem dX0_tell_89 : decode cX0_tell 89 = .ok (.getfield 85, 3) := by decide +kernel
theorem dX0_tell_92 : decode cX0_tell 92 = .ok (.ireturn, 1) := by decide +kernel
set_option maxRecDepth 20000 in
theorem ggX0_yealms_X0_hasYealm : GoodIn wsX0_yealms wsX0_hasYealm := goodIn_r _ [7, 8, 9, 10, 6, 11, 1, 2, 12, 13, 14, 15, 16, 17, 18, 19, 20, 21, 22] (by decide +kernel) (by decide +kernel)
set_option maxRecDepth 20000 in
theorem gX0_yealms_X0_hasYealm : GoodIn wsX0_yealms (wsV RX0 51 RX0 yX0_hasYealm wsX0_hasYealm) := goodIn_app (goodIn_of _ (by decide +kernel)) ggX0_yealms_X0_hasYealm
theorem dX0_yealms_0 : decode cX0_yealms 0 = .ok (.iconst 0, 1) := by decide +kernel
theorem dX0_yealms_1 : decode cX0_yealms 1 = .ok (.istore_n 1, 1) := by decide +kernel
theorem dX0_yealms_2 : decode cX0_yealms 2 = .ok (.iconst 0, 1) := by decide +kernel
theorem dX0_yealms_3 : decode cX0_yealms 3 = .ok (.istore_n 2, 1) := by decide +kernel
theorem dX0_yealms_4 : decode cX0_yealms 4 = .ok (.iload_n 2, 1) := by decide +kernel
theorem dX0_yealms_5 : decode cX0_yealms 5 = .ok (.aload_n 0, 1) := by decide +kernel
theorem dX0_yealms_6 : decode cX0_yealms 6 = .ok (.getfield 28, 3) := by decide +kernel
theorem dX0_yealms_9 : decode cX0_yealms 9 = .ok (.if_icmp .ge 37, 3) := by decide +kernel
theorem dX0_yealms_12 : decode cX0_yealms 12 = .ok (.iconst 0, 1) := by decide +kernel
theorem dX0_yealms_13 : decode cX0_yealms 13 = .ok (.istore_n 3, 1) := by decide +kernel
theorem dX0_yealms_14 : decode cX0_yealms 14 = .ok (.iload_n 3, 1) := by decide +kernel
theorem dX0_yealms_15 : decode cX0_yealms 15 = .ok (.aload_n 0, 1) := by decide +kernel
theorem dX0_yealms_16 : decode cX0_yealms 16 = .ok (.getfield 24, 3) := by decide +kernel
theorem dX0_yealms_19 : decode cX0_yealms 19 = .ok (.if_icmp .ge 21, 3) := by decide +kernel
theorem dX0_yealms_22 : decode cX0_yealms 22 = .ok (.aload_n 0, 1) := by decide +kernel
theorem dX0_yealms_23 : decode cX0_yealms 23 = .ok (.iload_n 2, 1) := by decide +kernel
theorem dX0_yealms_24 : decode cX0_yealms 24 = .ok (.iload_n 3, 1) := by decide +kernel
theorem dX0_yealms_25 : decode cX0_yealms 25 = .ok (.invokevirtual 51, 3) := by decide +kernel
theorem dX0_yealms_28 : decode cX0_yealms 28 = .ok (.ifCond .eq 6, 3) := by decide +kernel
theorem dX0_yealms_31 : decode cX0_yealms 31 = .ok (.iinc 1 1, 3) := by decide +kernel
theorem dX0_yealms_34 : decode cX0_yealms 34 = .ok (.iinc 3 1, 3) := by decide +kernel
theorem dX0_yealms_37 : decode cX0_yealms 37 = .ok (.goto (-23), 3) := by decide +kernel
theorem dX0_yealms_40 : decode cX0_yealms 40 = .ok (.iinc 2 1, 3) := by decide +kernel
theorem dX0_yealms_43 : decode cX0_yealms 43 = .ok (.goto (-39), 3) := by decide +kernel
theorem dX0_yealms_46 : decode cX0_yealms 46 = .ok (.iload_n 1, 1) := by decide +kernel
theorem dX0_yealms_47 : decode cX0_yealms 47 = .ok (.ireturn, 1) := by decide +kernel
set_option maxRecDepth 20000 in
theorem ggX0_thicknessInAll_X0_thicknessOver : GoodIn wsX0_thicknessInAll wsX0_thicknessOver := goodIn_r _ [6, 7, 8, 9, 10, 5, 11, 1, 12, 13, 14, 15, 16, 17, 18, 19, 20, 21, 22] (by decide +kernel) (by decide +kernel)
set_option maxRecDepth 20000 in
theorem gX0_thicknessInAll_X0_thicknessOver : GoodIn wsX0_thicknessInAll (wsV RX0 88 RX0 yX0_thicknessOver wsX0_thicknessOver) := goodIn_app (goodIn_of _ (by decide +kernel)) ggX0_thicknessInAll_X0_thicknessOver
theorem dX0_thicknessInAll_0 : decode cX0_thicknessInAll 0 = .ok (.iconst 0, 1) := by decide +kernel
theorem dX0_thicknessInAll_1 : decode cX0_thicknessInAll 1 = .ok (.istore_n 1, 1) := by decide +kernel
theorem dX0_thicknessInAll_2 : decode cX0_thicknessInAll 2 = .ok (.iconst 0, 1) := by decide +kernel
theorem dX0_thicknessInAll_3 : decode cX0_thicknessInAll 3 = .ok (.istore_n 2, 1) := by decide +kernel
theorem dX0_thicknessInAll_4 : decode cX0_thicknessInAll 4 = .ok (.iload_n 2, 1) := by decide +kernel
theorem dX0_thicknessInAll_5 : decode cX0_thicknessInAll 5 = .ok (.aload_n 0, 1) := by decide +kernel
theorem dX0_thicknessInAll_6 : decode cX0_thicknessInAll 6 = .ok (.getfield 24, 3) := by decide +kernel
theorem dX0_thicknessInAll_9 : decode cX0_thicknessInAll 9 = .ok (.if_icmp .ge 17, 3) := by decide +kernel
theorem dX0_thicknessInAll_12 : decode cX0_thicknessInAll 12 = .ok (.iload_n 1, 1) := by decide +kernel
theorem dX0_thicknessInAll_13 : decode cX0_thicknessInAll 13 = .ok (.aload_n 0, 1) := by decide +kernel
theorem dX0_thicknessInAll_14 : decode cX0_thicknessInAll 14 = .ok (.iload_n 2, 1) := by decide +kernel
theorem dX0_thicknessInAll_15 : decode cX0_thicknessInAll 15 = .ok (.invokevirtual 88, 3) := by decide +kernel
theorem dX0_thicknessInAll_18 : decode cX0_thicknessInAll 18 = .ok (.iadd, 1) := by decide +kernel
theorem dX0_thicknessInAll_19 : decode cX0_thicknessInAll 19 = .ok (.istore_n 1, 1) := by decide +kernel
theorem dX0_thicknessInAll_20 : decode cX0_thicknessInAll 20 = .ok (.iinc 2 1, 3) := by decide +kernel
theorem dX0_thicknessInAll_23 : decode cX0_thicknessInAll 23 = .ok (.goto (-19), 3) := by decide +kernel
theorem dX0_thicknessInAll_26 : decode cX0_thicknessInAll 26 = .ok (.iload_n 1, 1) := by decide +kernel
theorem dX0_thicknessInAll_27 : decode cX0_thicknessInAll 27 = .ok (.ireturn, 1) := by decide +kernel
set_option maxRecDepth 20000 in
theorem ggX0_thicknessOver_X0_thicknessAt : GoodIn wsX0_thicknessOver wsX0_thicknessAt := goodIn_r _ [6, 1, 7, 8, 9, 10, 11, 12, 13, 14, 15, 16, 17, 18] (by decide +kernel) (by decide +kernel)
set_option maxRecDepth 20000 in
theorem gX0_thicknessOver_X0_thicknessAt : GoodIn wsX0_thicknessOver (wsV RX0 47 RX0 yX0_thicknessAt wsX0_thicknessAt) := goodIn_app (goodIn_of _ (by decide +kernel)) ggX0_thicknessOver_X0_thicknessAt
theorem dX0_thicknessOver_0 : decode cX0_thicknessOver 0 = .ok (.iconst 0, 1) := by decide +kernel
theorem dX0_thicknessOver_1 : decode cX0_thicknessOver 1 = .ok (.istore_n 2, 1) := by decide +kernel
theorem dX0_thicknessOver_2 : decode cX0_thicknessOver 2 = .ok (.iconst 0, 1) := by decide +kernel
theorem dX0_thicknessOver_3 : decode cX0_thicknessOver 3 = .ok (.istore_n 3, 1) := by decide +kernel
theorem dX0_thicknessOver_4 : decode cX0_thicknessOver 4 = .ok (.iload_n 3, 1) := by decide +kernel
theorem dX0_thicknessOver_5 : decode cX0_thicknessOver 5 = .ok (.aload_n 0, 1) := by decide +kernel
theorem dX0_thicknessOver_6 : decode cX0_thicknessOver 6 = .ok (.getfield 28, 3) := by decide +kernel
theorem dX0_thicknessOver_9 : decode cX0_thicknessOver 9 = .ok (.if_icmp .ge 18, 3) := by decide +kernel
theorem dX0_thicknessOver_12 : decode cX0_thicknessOver 12 = .ok (.iload_n 2, 1) := by decide +kernel
theorem dX0_thicknessOver_13 : decode cX0_thicknessOver 13 = .ok (.aload_n 0, 1) := by decide +kernel
theorem dX0_thicknessOver_14 : decode cX0_thicknessOver 14 = .ok (.iload_n 3, 1) := by decide +kernel
theorem dX0_thicknessOver_15 : decode cX0_thicknessOver 15 = .ok (.iload_n 1, 1) := by decide +kernel
theorem dX0_thicknessOver_16 : decode cX0_thicknessOver 16 = .ok (.invokevirtual 47, 3) := by decide +kernel
theorem dX0_thicknessOver_19 : decode cX0_thicknessOver 19 = .ok (.iadd, 1) := by decide +kernel
theorem dX0_thicknessOver_20 : decode cX0_thicknessOver 20 = .ok (.istore_n 2, 1) := by decide +kernel
theorem dX0_thicknessOver_21 : decode cX0_thicknessOver 21 = .ok (.iinc 3 1, 3) := by decide +kernel
theorem dX0_thicknessOver_24 : decode cX0_thicknessOver 24 = .ok (.goto (-20), 3) := by decide +kernel
theorem dX0_thicknessOver_27 : decode cX0_thicknessOver 27 = .ok (.iload_n 2, 1) := by decide +kernel
theorem dX0_thicknessOver_28 : decode cX0_thicknessOver 28 = .ok (.ireturn, 1) := by decide +kernel
set_option maxRecDepth 20000 in
theorem ggX0_leaks_X0_thicknessOver : GoodIn wsX0_leaks wsX0_thicknessOver := goodIn_r _ [7, 2, 8, 9, 10, 6, 11, 1, 12, 17, 18, 19, 20, 21, 22, 23, 24, 25, 26] (by decide +kernel) (by decide +kernel)
set_option maxRecDepth 20000 in
theorem gX0_leaks_X0_thicknessOver : GoodIn wsX0_leaks (wsV RX0 88 RX0 yX0_thicknessOver wsX0_thicknessOver) := goodIn_app (goodIn_of _ (by decide +kernel)) ggX0_leaks_X0_thicknessOver
set_option maxRecDepth 20000 in
theorem ggX0_leaks_X0_hasYealm : GoodIn wsX0_leaks wsX0_hasYealm := goodIn_r _ [16, 8, 9, 10, 6, 11, 2, 1, 12, 17, 18, 19, 20, 21, 22, 23, 24, 25, 26] (by decide +kernel) (by decide +kernel)
set_option maxRecDepth 20000 in
theorem gX0_leaks_X0_hasYealm : GoodIn wsX0_leaks (wsV RX0 51 RX0 yX0_hasYealm wsX0_hasYealm) := goodIn_app (goodIn_of _ (by decide +kernel)) ggX0_leaks_X0_hasYealm
theorem dX0_leaks_0 : decode cX0_leaks 0 = .ok (.iconst 0, 1) := by decide +kernel
theorem dX0_leaks_1 : decode cX0_leaks 1 = .ok (.istore_n 1, 1) := by decide +kernel
theorem dX0_leaks_2 : decode cX0_leaks 2 = .ok (.iconst 0, 1) := by decide +kernel
theorem dX0_leaks_3 : decode cX0_leaks 3 = .ok (.istore_n 2, 1) := by decide +kernel
theorem dX0_leaks_4 : decode cX0_leaks 4 = .ok (.iload_n 2, 1) := by decide +kernel
theorem dX0_leaks_5 : decode cX0_leaks 5 = .ok (.aload_n 0, 1) := by decide +kernel
theorem dX0_leaks_6 : decode cX0_leaks 6 = .ok (.getfield 24, 3) := by decide +kernel
theorem dX0_leaks_9 : decode cX0_leaks 9 = .ok (.if_icmp .ge 41, 3) := by decide +kernel
theorem dX0_leaks_12 : decode cX0_leaks 12 = .ok (.aload_n 0, 1) := by decide +kernel
theorem dX0_leaks_13 : decode cX0_leaks 13 = .ok (.iload_n 2, 1) := by decide +kernel
theorem dX0_leaks_14 : decode cX0_leaks 14 = .ok (.invokevirtual 88, 3) := by decide +kernel
theorem dX0_leaks_17 : decode cX0_leaks 17 = .ok (.bipush 8, 2) := by decide +kernel
theorem dX0_leaks_19 : decode cX0_leaks 19 = .ok (.aload_n 0, 1) := by decide +kernel
theorem dX0_leaks_20 : decode cX0_leaks 20 = .ok (.getfield 28, 3) := by decide +kernel
theorem dX0_leaks_23 : decode cX0_leaks 23 = .ok (.imul, 1) := by decide +kernel
theorem dX0_leaks_24 : decode cX0_leaks 24 = .ok (.if_icmp .lt 17, 3) := by decide +kernel
theorem dX0_leaks_27 : decode cX0_leaks 27 = .ok (.aload_n 0, 1) := by decide +kernel
theorem dX0_leaks_28 : decode cX0_leaks 28 = .ok (.aload_n 0, 1) := by decide +kernel
theorem dX0_leaks_29 : decode cX0_leaks 29 = .ok (.getfield 28, 3) := by decide +kernel
theorem dX0_leaks_32 : decode cX0_leaks 32 = .ok (.iconst 1, 1) := by decide +kernel
theorem dX0_leaks_33 : decode cX0_leaks 33 = .ok (.isub, 1) := by decide +kernel
theorem dX0_leaks_34 : decode cX0_leaks 34 = .ok (.iload_n 2, 1) := by decide +kernel
theorem dX0_leaks_35 : decode cX0_leaks 35 = .ok (.invokevirtual 51, 3) := by decide +kernel
theorem dX0_leaks_38 : decode cX0_leaks 38 = .ok (.ifCond .ne 6, 3) := by decide +kernel
theorem dX0_leaks_41 : decode cX0_leaks 41 = .ok (.iinc 1 1, 3) := by decide +kernel
theorem dX0_leaks_44 : decode cX0_leaks 44 = .ok (.iinc 2 1, 3) := by decide +kernel
theorem dX0_leaks_47 : decode cX0_leaks 47 = .ok (.goto (-43), 3) := by decide +kernel
theorem dX0_leaks_50 : decode cX0_leaks 50 = .ok (.iload_n 1, 1) := by decide +kernel
theorem dX0_leaks_51 : decode cX0_leaks 51 = .ok (.ireturn, 1) := by decide +kernel
set_option maxRecDepth 20000 in
theorem ggX0_liveMonth_X0_liveMonthAt : GoodIn wsX0_liveMonth wsX0_liveMonthAt := goodIn_r _ [6, 7, 8, 9, 10, 11, 5, 12, 13, 14, 15, 16, 17, 18, 19, 20, 21, 22, 23, 24, 25, 26, 1, 27, 28, 29, 30, 31, 32, 33, 34, 35, 36, 37, 38, 39, 40, 41, 42, 43, 44, 45, 46, 47, 48, 49, 50, 51, 52, 53, 54, 55, 56, 57, 58, 59, 60, 61, 62, 63, 64, 65, 66, 71, 72, 73, 74, 75, 76, 77, 78, 79, 80] (by decide +kernel) (by decide +kernel)
set_option maxRecDepth 20000 in
theorem gX0_liveMonth_X0_liveMonthAt : GoodIn wsX0_liveMonth (wsV RX0 92 RX0 yX0_liveMonthAt wsX0_liveMonthAt) := goodIn_app (goodIn_of _ (by decide +kernel)) ggX0_liveMonth_X0_liveMonthAt
set_option maxRecDepth 20000 in
theorem ggX0_liveMonth_X0_wearRidge : GoodIn wsX0_liveMonth wsX0_wearRidge := goodIn_r _ [70, 62, 15, 16, 17, 18, 71, 72, 73, 74, 75, 76, 77, 78, 79, 80] (by decide +kernel) (by decide +kernel)
set_option maxRecDepth 20000 in
theorem gX0_liveMonth_X0_wearRidge : GoodIn wsX0_liveMonth (wsV RX0 96 RX0 yX0_wearRidge wsX0_wearRidge) := goodIn_app (goodIn_of _ (by decide +kernel)) ggX0_liveMonth_X0_wearRidge
theorem dX0_liveMonth_0 : decode cX0_liveMonth 0 = .ok (.iconst 0, 1) := by decide +kernel
theorem dX0_liveMonth_1 : decode cX0_liveMonth 1 = .ok (.istore_n 3, 1) := by decide +kernel
theorem dX0_liveMonth_2 : decode cX0_liveMonth 2 = .ok (.iconst 0, 1) := by decide +kernel
theorem dX0_liveMonth_3 : decode cX0_liveMonth 3 = .ok (.istore 4, 2) := by decide +kernel
theorem dX0_liveMonth_5 : decode cX0_liveMonth 5 = .ok (.iload 4, 2) := by decide +kernel
theorem dX0_liveMonth_7 : decode cX0_liveMonth 7 = .ok (.aload_n 0, 1) := by decide +kernel
theorem dX0_liveMonth_8 : decode cX0_liveMonth 8 = .ok (.getfield 24, 3) := by decide +kernel
theorem dX0_liveMonth_11 : decode cX0_liveMonth 11 = .ok (.if_icmp .ge 20, 3) := by decide +kernel
theorem dX0_liveMonth_14 : decode cX0_liveMonth 14 = .ok (.iload_n 3, 1) := by decide +kernel
theorem dX0_liveMonth_15 : decode cX0_liveMonth 15 = .ok (.aload_n 0, 1) := by decide +kernel
theorem dX0_liveMonth_16 : decode cX0_liveMonth 16 = .ok (.iload 4, 2) := by decide +kernel
theorem dX0_liveMonth_18 : decode cX0_liveMonth 18 = .ok (.iload_n 1, 1) := by decide +kernel
theorem dX0_liveMonth_19 : decode cX0_liveMonth 19 = .ok (.iload_n 2, 1) := by decide +kernel
theorem dX0_liveMonth_20 : decode cX0_liveMonth 20 = .ok (.invokevirtual 92, 3) := by decide +kernel
theorem dX0_liveMonth_23 : decode cX0_liveMonth 23 = .ok (.iadd, 1) := by decide +kernel
theorem dX0_liveMonth_24 : decode cX0_liveMonth 24 = .ok (.istore_n 3, 1) := by decide +kernel
theorem dX0_liveMonth_25 : decode cX0_liveMonth 25 = .ok (.iinc 4 1, 3) := by decide +kernel
theorem dX0_liveMonth_28 : decode cX0_liveMonth 28 = .ok (.goto (-23), 3) := by decide +kernel
theorem dX0_liveMonth_31 : decode cX0_liveMonth 31 = .ok (.aload_n 0, 1) := by decide +kernel
theorem dX0_liveMonth_32 : decode cX0_liveMonth 32 = .ok (.iload_n 2, 1) := by decide +kernel
theorem dX0_liveMonth_33 : decode cX0_liveMonth 33 = .ok (.invokevirtual 96, 3) := by decide +kernel
theorem dX0_liveMonth_36 : decode cX0_liveMonth 36 = .ok (.iload_n 3, 1) := by decide +kernel
theorem dX0_liveMonth_37 : decode cX0_liveMonth 37 = .ok (.ireturn, 1) := by decide +kernel
set_option maxRecDepth 20000 in
theorem ggX0_liveMonthAt_X0_rainOn : GoodIn wsX0_liveMonthAt wsX0_rainOn := goodIn_r _ [7, 8, 9, 10, 11, 12, 13, 14, 15, 16, 6, 17, 18, 19, 20, 21, 22, 23, 24, 25, 26, 27, 28, 29, 30, 31, 32, 33, 34, 35, 36, 37, 38, 39, 40, 41, 63, 64, 65, 66, 67, 68, 69, 70, 71, 72] (by decide +kernel) (by decide +kernel)
set_option maxRecDepth 20000 in
theorem gX0_liveMonthAt_X0_rainOn : GoodIn wsX0_liveMonthAt (wsV RX0 100 RX0 yX0_rainOn wsX0_rainOn) := goodIn_app (goodIn_of _ (by decide +kernel)) ggX0_liveMonthAt_X0_rainOn
set_option maxRecDepth 20000 in
theorem ggX0_liveMonthAt_X0_growMoss : GoodIn wsX0_liveMonthAt wsX0_growMoss := goodIn_r _ [45, 32, 8, 31, 46, 47, 12, 48, 14, 15, 16, 6, 17, 18, 19, 20, 21, 22, 9, 23, 24, 25, 26, 63, 64, 65, 66, 67, 68, 69, 70, 71, 72] (by decide +kernel) (by decide +kernel)
set_option maxRecDepth 20000 in
theorem gX0_liveMonthAt_X0_growMoss : GoodIn wsX0_liveMonthAt (wsV RX0 103 RX0 yX0_growMoss wsX0_growMoss) := goodIn_app (goodIn_of _ (by decide +kernel)) ggX0_liveMonthAt_X0_growMoss
set_option maxRecDepth 20000 in
theorem ggX0_liveMonthAt_X0_stormOn : GoodIn wsX0_liveMonthAt wsX0_stormOn := goodIn_r _ [52, 8, 9, 53, 54, 55, 6, 56, 57, 58, 14, 15, 16, 17, 18, 19, 20, 21, 22, 23, 24, 25, 26, 34, 35, 36, 37, 38, 39, 40, 41, 59, 60, 61, 62, 63, 64, 65, 66, 67, 68, 69, 70, 71, 72] (by decide +kernel) (by decide +kernel)
set_option maxRecDepth 20000 in
theorem gX0_liveMonthAt_X0_stormOn : GoodIn wsX0_liveMonthAt (wsV RX0 107 RX0 yX0_stormOn wsX0_stormOn) := goodIn_app (goodIn_of _ (by decide +kernel)) ggX0_liveMonthAt_X0_stormOn
theorem dX0_liveMonthAt_0 : decode cX0_liveMonthAt 0 = .ok (.aload_n 0, 1) := by decide +kernel
theorem dX0_liveMonthAt_1 : decode cX0_liveMonthAt 1 = .ok (.iload_n 1, 1) := by decide +kernel
theorem dX0_liveMonthAt_2 : decode cX0_liveMonthAt 2 = .ok (.iload_n 2, 1) := by decide +kernel
theorem dX0_liveMonthAt_3 : decode cX0_liveMonthAt 3 = .ok (.invokevirtual 100, 3) := by decide +kernel
theorem dX0_liveMonthAt_6 : decode cX0_liveMonthAt 6 = .ok (.istore 4, 2) := by decide +kernel
theorem dX0_liveMonthAt_8 : decode cX0_liveMonthAt 8 = .ok (.aload_n 0, 1) := by decide +kernel
theorem dX0_liveMonthAt_9 : decode cX0_liveMonthAt 9 = .ok (.iload_n 1, 1) := by decide +kernel
theorem dX0_liveMonthAt_10 : decode cX0_liveMonthAt 10 = .ok (.iload_n 2, 1) := by decide +kernel
theorem dX0_liveMonthAt_11 : decode cX0_liveMonthAt 11 = .ok (.invokevirtual 103, 3) := by decide +kernel
theorem dX0_liveMonthAt_14 : decode cX0_liveMonthAt 14 = .ok (.aload_n 0, 1) := by decide +kernel
theorem dX0_liveMonthAt_15 : decode cX0_liveMonthAt 15 = .ok (.iload_n 1, 1) := by decide +kernel
theorem dX0_liveMonthAt_16 : decode cX0_liveMonthAt 16 = .ok (.iload_n 3, 1) := by decide +kernel
theorem dX0_liveMonthAt_17 : decode cX0_liveMonthAt 17 = .ok (.invokevirtual 107, 3) := by decide +kernel
theorem dX0_liveMonthAt_20 : decode cX0_liveMonthAt 20 = .ok (.istore 5, 2) := by decide +kernel
theorem dX0_liveMonthAt_22 : decode cX0_liveMonthAt 22 = .ok (.aload_n 0, 1) := by decide +kernel
theorem dX0_liveMonthAt_23 : decode cX0_liveMonthAt 23 = .ok (.dup, 1) := by decide +kernel
theorem dX0_liveMonthAt_24 : decode cX0_liveMonthAt 24 = .ok (.getfield 85, 3) := by decide +kernel
theorem dX0_liveMonthAt_27 : decode cX0_liveMonthAt 27 = .ok (.iload 4, 2) := by decide +kernel
theorem dX0_liveMonthAt_29 : decode cX0_liveMonthAt 29 = .ok (.iadd, 1) := by decide +kernel
theorem dX0_liveMonthAt_30 : decode cX0_liveMonthAt 30 = .ok (.putfield 85, 3) := by decide +kernel
theorem dX0_liveMonthAt_33 : decode cX0_liveMonthAt 33 = .ok (.aload_n 0, 1) := by decide +kernel
theorem dX0_liveMonthAt_34 : decode cX0_liveMonthAt 34 = .ok (.dup, 1) := by decide +kernel
theorem dX0_liveMonthAt_35 : decode cX0_liveMonthAt 35 = .ok (.getfield 82, 3) := by decide +kernel
theorem dX0_liveMonthAt_38 : decode cX0_liveMonthAt 38 = .ok (.iload 5, 2) := by decide +kernel
theorem dX0_liveMonthAt_40 : decode cX0_liveMonthAt 40 = .ok (.iadd, 1) := by decide +kernel
theorem dX0_liveMonthAt_41 : decode cX0_liveMonthAt 41 = .ok (.putfield 82, 3) := by decide +kernel
theorem dX0_liveMonthAt_44 : decode cX0_liveMonthAt 44 = .ok (.iload 4, 2) := by decide +kernel
theorem dX0_liveMonthAt_46 : decode cX0_liveMonthAt 46 = .ok (.iload 5, 2) := by decide +kernel
theorem dX0_liveMonthAt_48 : decode cX0_liveMonthAt 48 = .ok (.iadd, 1) := by decide +kernel
theorem dX0_liveMonthAt_49 : decode cX0_liveMonthAt 49 = .ok (.ireturn, 1) := by decide +kernel
theorem dX0_wearRidge_0 : decode cX0_wearRidge 0 = .ok (.aload_n 0, 1) := by decide +kernel
theorem dX0_wearRidge_1 : decode cX0_wearRidge 1 = .ok (.aload_n 0, 1) := by decide +kernel
theorem dX0_wearRidge_2 : decode cX0_wearRidge 2 = .ok (.getfield 34, 3) := by decide +kernel
theorem dX0_wearRidge_5 : decode cX0_wearRidge 5 = .ok (.iload_n 1, 1) := by decide +kernel
theorem dX0_wearRidge_6 : decode cX0_wearRidge 6 = .ok (.isub, 1) := by decide +kernel
theorem dX0_wearRidge_7 : decode cX0_wearRidge 7 = .ok (.iconst 1, 1) := by decide +kernel
theorem dX0_wearRidge_8 : decode cX0_wearRidge 8 = .ok (.isub, 1) := by decide +kernel
theorem dX0_wearRidge_9 : decode cX0_wearRidge 9 = .ok (.iconst 0, 1) := by decide +kernel
theorem dX0_wearRidge_10 : decode cX0_wearRidge 10 = .ok (.invokestatic 110, 3) := by decide +kernel
theorem dX0_wearRidge_13 : decode cX0_wearRidge 13 = .ok (.putfield 34, 3) := by decide +kernel
theorem dX0_wearRidge_16 : decode cX0_wearRidge 16 = .ok (.return_, 1) := by decide +kernel
set_option maxRecDepth 20000 in
theorem ggX0_rainOn_X0_hasYealm : GoodIn wsX0_rainOn wsX0_hasYealm := goodIn_r _ [11, 12, 13, 14, 10, 15, 1, 16, 2, 36, 37, 38, 39, 40, 41, 42, 43, 44, 45] (by decide +kernel) (by decide +kernel)
set_option maxRecDepth 20000 in
theorem gX0_rainOn_X0_hasYealm : GoodIn wsX0_rainOn (wsV RX0 51 RX0 yX0_hasYealm wsX0_hasYealm) := goodIn_app (goodIn_of _ (by decide +kernel)) ggX0_rainOn_X0_hasYealm
set_option maxRecDepth 20000 in
theorem ggX0_rainOn_X0_numberOf : GoodIn wsX0_rainOn wsX0_numberOf := goodIn_r _ [20, 16, 36, 37, 38, 39, 40, 41, 42, 43, 44, 45] (by decide +kernel) (by decide +kernel)
set_option maxRecDepth 20000 in
theorem gX0_rainOn_X0_numberOf : GoodIn wsX0_rainOn (wsV RX0 61 RX0 yX0_numberOf wsX0_numberOf) := goodIn_app (goodIn_of _ (by decide +kernel)) ggX0_rainOn_X0_numberOf
set_option maxRecDepth 20000 in
theorem ggX0_rainOn_X0_wearBy : GoodIn wsX0_rainOn wsX0_wearBy := goodIn_r _ [24, 25, 26, 27, 17, 18, 19, 10, 20, 16, 28, 29, 30, 31, 32, 33, 34, 35, 1, 12, 13, 14, 15, 2, 36, 37, 38, 39, 40, 41, 42, 43, 44, 45] (by decide +kernel) (by decide +kernel)
set_option maxRecDepth 20000 in
theorem gX0_rainOn_X0_wearBy : GoodIn wsX0_rainOn (wsV RX0 113 RX0 yX0_wearBy wsX0_wearBy) := goodIn_app (goodIn_of _ (by decide +kernel)) ggX0_rainOn_X0_wearBy
theorem dX0_rainOn_0 : decode cX0_rainOn 0 = .ok (.iconst 0, 1) := by decide +kernel
theorem dX0_rainOn_1 : decode cX0_rainOn 1 = .ok (.istore_n 3, 1) := by decide +kernel
theorem dX0_rainOn_2 : decode cX0_rainOn 2 = .ok (.iconst 0, 1) := by decide +kernel
theorem dX0_rainOn_3 : decode cX0_rainOn 3 = .ok (.istore 4, 2) := by decide +kernel
theorem dX0_rainOn_5 : decode cX0_rainOn 5 = .ok (.iload 4, 2) := by decide +kernel
theorem dX0_rainOn_7 : decode cX0_rainOn 7 = .ok (.aload_n 0, 1) := by decide +kernel
theorem dX0_rainOn_8 : decode cX0_rainOn 8 = .ok (.getfield 28, 3) := by decide +kernel
theorem dX0_rainOn_11 : decode cX0_rainOn 11 = .ok (.if_icmp .ge 68, 3) := by decide +kernel
theorem dX0_rainOn_14 : decode cX0_rainOn 14 = .ok (.aload_n 0, 1) := by decide +kernel
theorem dX0_rainOn_15 : decode cX0_rainOn 15 = .ok (.iload 4, 2) := by decide +kernel
theorem dX0_rainOn_17 : decode cX0_rainOn 17 = .ok (.iload_n 1, 1) := by decide +kernel
theorem dX0_rainOn_18 : decode cX0_rainOn 18 = .ok (.invokevirtual 51, 3) := by decide +kernel
theorem dX0_rainOn_21 : decode cX0_rainOn 21 = .ok (.ifCond .eq 52, 3) := by decide +kernel
theorem dX0_rainOn_24 : decode cX0_rainOn 24 = .ok (.aload_n 0, 1) := by decide +kernel
theorem dX0_rainOn_25 : decode cX0_rainOn 25 = .ok (.iload 4, 2) := by decide +kernel
theorem dX0_rainOn_27 : decode cX0_rainOn 27 = .ok (.iload_n 1, 1) := by decide +kernel
theorem dX0_rainOn_28 : decode cX0_rainOn 28 = .ok (.invokevirtual 61, 3) := by decide +kernel
theorem dX0_rainOn_31 : decode cX0_rainOn 31 = .ok (.istore 5, 2) := by decide +kernel
theorem dX0_rainOn_33 : decode cX0_rainOn 33 = .ok (.aload_n 0, 1) := by decide +kernel
theorem dX0_rainOn_34 : decode cX0_rainOn 34 = .ok (.getfield 15, 3) := by decide +kernel
theorem dX0_rainOn_37 : decode cX0_rainOn 37 = .ok (.iload 5, 2) := by decide +kernel
theorem dX0_rainOn_39 : decode cX0_rainOn 39 = .ok (.aload_n 0, 1) := by decide +kernel
theorem dX0_rainOn_40 : decode cX0_rainOn 40 = .ok (.getfield 15, 3) := by decide +kernel
theorem dX0_rainOn_43 : decode cX0_rainOn 43 = .ok (.iload 5, 2) := by decide +kernel
theorem dX0_rainOn_45 : decode cX0_rainOn 45 = .ok (.iaload, 1) := by decide +kernel
theorem dX0_rainOn_46 : decode cX0_rainOn 46 = .ok (.aload_n 0, 1) := by decide +kernel
theorem dX0_rainOn_47 : decode cX0_rainOn 47 = .ok (.iload_n 2, 1) := by decide +kernel
theorem dX0_rainOn_48 : decode cX0_rainOn 48 = .ok (.iload 4, 2) := by decide +kernel
theorem dX0_rainOn_50 : decode cX0_rainOn 50 = .ok (.iload_n 1, 1) := by decide +kernel
theorem dX0_rainOn_51 : decode cX0_rainOn 51 = .ok (.invokevirtual 113, 3) := by decide +kernel
theorem dX0_rainOn_54 : decode cX0_rainOn 54 = .ok (.isub, 1) := by decide +kernel
theorem dX0_rainOn_55 : decode cX0_rainOn 55 = .ok (.iconst 0, 1) := by decide +kernel
theorem dX0_rainOn_56 : decode cX0_rainOn 56 = .ok (.invokestatic 110, 3) := by decide +kernel
theorem dX0_rainOn_59 : decode cX0_rainOn 59 = .ok (.iastore, 1) := by decide +kernel
theorem dX0_rainOn_60 : decode cX0_rainOn 60 = .ok (.aload_n 0, 1) := by decide +kernel
theorem dX0_rainOn_61 : decode cX0_rainOn 61 = .ok (.getfield 15, 3) := by decide +kernel
theorem dX0_rainOn_64 : decode cX0_rainOn 64 = .ok (.iload 5, 2) := by decide +kernel
theorem dX0_rainOn_66 : decode cX0_rainOn 66 = .ok (.iaload, 1) := by decide +kernel
theorem dX0_rainOn_67 : decode cX0_rainOn 67 = .ok (.ifCond .ne 6, 3) := by decide +kernel
theorem dX0_rainOn_70 : decode cX0_rainOn 70 = .ok (.iinc 3 1, 3) := by decide +kernel
theorem dX0_rainOn_73 : decode cX0_rainOn 73 = .ok (.iinc 4 1, 3) := by decide +kernel
theorem dX0_rainOn_76 : decode cX0_rainOn 76 = .ok (.goto (-71), 3) := by decide +kernel
theorem dX0_rainOn_79 : decode cX0_rainOn 79 = .ok (.iload_n 3, 1) := by decide +kernel
theorem dX0_rainOn_80 : decode cX0_rainOn 80 = .ok (.ireturn, 1) := by decide +kernel
set_option maxRecDepth 20000 in
theorem ggX0_wearBy_X0_numberOf : GoodIn wsX0_wearBy wsX0_numberOf := goodIn_r _ [8, 9, 24, 25, 26, 27, 28, 29, 30, 31, 32, 33] (by decide +kernel) (by decide +kernel)
set_option maxRecDepth 20000 in
theorem gX0_wearBy_X0_numberOf : GoodIn wsX0_wearBy (wsV RX0 61 RX0 yX0_numberOf wsX0_numberOf) := goodIn_app (goodIn_of _ (by decide +kernel)) ggX0_wearBy_X0_numberOf
set_option maxRecDepth 20000 in
theorem ggX0_wearBy_X0_isBare : GoodIn wsX0_wearBy wsX0_isBare := goodIn_r _ [13, 14, 15, 16, 7, 17, 18, 19, 20, 21, 22, 9, 23, 24, 25, 26, 27, 28, 29, 30, 31, 32, 33] (by decide +kernel) (by decide +kernel)
set_option maxRecDepth 20000 in
theorem gX0_wearBy_X0_isBare : GoodIn wsX0_wearBy (wsV RX0 69 RX0 yX0_isBare wsX0_isBare) := goodIn_app (goodIn_of _ (by decide +kernel)) ggX0_wearBy_X0_isBare
theorem dX0_wearBy_0 : decode cX0_wearBy 0 = .ok (.aload_n 0, 1) := by decide +kernel
theorem dX0_wearBy_1 : decode cX0_wearBy 1 = .ok (.iload_n 2, 1) := by decide +kernel
theorem dX0_wearBy_2 : decode cX0_wearBy 2 = .ok (.iload_n 3, 1) := by decide +kernel
theorem dX0_wearBy_3 : decode cX0_wearBy 3 = .ok (.invokevirtual 61, 3) := by decide +kernel
theorem dX0_wearBy_6 : decode cX0_wearBy 6 = .ok (.istore 4, 2) := by decide +kernel
theorem dX0_wearBy_8 : decode cX0_wearBy 8 = .ok (.iload_n 1, 1) := by decide +kernel
theorem dX0_wearBy_9 : decode cX0_wearBy 9 = .ok (.aload_n 0, 1) := by decide +kernel
theorem dX0_wearBy_10 : decode cX0_wearBy 10 = .ok (.getfield 21, 3) := by decide +kernel
theorem dX0_wearBy_13 : decode cX0_wearBy 13 = .ok (.iload 4, 2) := by decide +kernel
theorem dX0_wearBy_15 : decode cX0_wearBy 15 = .ok (.iaload, 1) := by decide +kernel
theorem dX0_wearBy_16 : decode cX0_wearBy 16 = .ok (.iconst 3, 1) := by decide +kernel
theorem dX0_wearBy_17 : decode cX0_wearBy 17 = .ok (.idiv, 1) := by decide +kernel
theorem dX0_wearBy_18 : decode cX0_wearBy 18 = .ok (.iadd, 1) := by decide +kernel
theorem dX0_wearBy_19 : decode cX0_wearBy 19 = .ok (.aload_n 0, 1) := by decide +kernel
theorem dX0_wearBy_20 : decode cX0_wearBy 20 = .ok (.iload_n 2, 1) := by decide +kernel
theorem dX0_wearBy_21 : decode cX0_wearBy 21 = .ok (.iload_n 3, 1) := by decide +kernel
theorem dX0_wearBy_22 : decode cX0_wearBy 22 = .ok (.invokevirtual 69, 3) := by decide +kernel
theorem dX0_wearBy_25 : decode cX0_wearBy 25 = .ok (.ifCond .eq 7, 3) := by decide +kernel
theorem dX0_wearBy_28 : decode cX0_wearBy 28 = .ok (.iconst 2, 1) := by decide +kernel
theorem dX0_wearBy_29 : decode cX0_wearBy 29 = .ok (.goto 4, 3) := by decide +kernel
theorem dX0_wearBy_32 : decode cX0_wearBy 32 = .ok (.iconst 0, 1) := by decide +kernel
theorem dX0_wearBy_33 : decode cX0_wearBy 33 = .ok (.iadd, 1) := by decide +kernel
theorem dX0_wearBy_34 : decode cX0_wearBy 34 = .ok (.istore 5, 2) := by decide +kernel
theorem dX0_wearBy_36 : decode cX0_wearBy 36 = .ok (.iload 5, 2) := by decide +kernel
theorem dX0_wearBy_38 : decode cX0_wearBy 38 = .ok (.bipush 70, 2) := by decide +kernel
theorem dX0_wearBy_40 : decode cX0_wearBy 40 = .ok (.aload_n 0, 1) := by decide +kernel
theorem dX0_wearBy_41 : decode cX0_wearBy 41 = .ok (.getfield 31, 3) := by decide +kernel
theorem dX0_wearBy_44 : decode cX0_wearBy 44 = .ok (.isub, 1) := by decide +kernel
theorem dX0_wearBy_45 : decode cX0_wearBy 45 = .ok (.imul, 1) := by decide +kernel
theorem dX0_wearBy_46 : decode cX0_wearBy 46 = .ok (.bipush 100, 2) := by decide +kernel
theorem dX0_wearBy_48 : decode cX0_wearBy 48 = .ok (.idiv, 1) := by decide +kernel
theorem dX0_wearBy_49 : decode cX0_wearBy 49 = .ok (.aload_n 0, 1) := by decide +kernel
theorem dX0_wearBy_50 : decode cX0_wearBy 50 = .ok (.getfield 9, 3) := by decide +kernel
theorem dX0_wearBy_53 : decode cX0_wearBy 53 = .ok (.iload 4, 2) := by decide +kernel
theorem dX0_wearBy_55 : decode cX0_wearBy 55 = .ok (.iaload, 1) := by decide +kernel
theorem dX0_wearBy_56 : decode cX0_wearBy 56 = .ok (.iconst 1, 1) := by decide +kernel
theorem dX0_wearBy_57 : decode cX0_wearBy 57 = .ok (.if_icmp .ne 7, 3) := by decide +kernel
theorem dX0_wearBy_60 : decode cX0_wearBy 60 = .ok (.iconst 1, 1) := by decide +kernel
theorem dX0_wearBy_61 : decode cX0_wearBy 61 = .ok (.goto 4, 3) := by decide +kernel
theorem dX0_wearBy_64 : decode cX0_wearBy 64 = .ok (.iconst 0, 1) := by decide +kernel
theorem dX0_wearBy_65 : decode cX0_wearBy 65 = .ok (.iadd, 1) := by decide +kernel
theorem dX0_wearBy_66 : decode cX0_wearBy 66 = .ok (.ireturn, 1) := by decide +kernel
set_option maxRecDepth 20000 in
theorem ggX0_growMoss_X0_hasYealm : GoodIn wsX0_growMoss wsX0_hasYealm := goodIn_r _ [12, 13, 14, 15, 11, 16, 2, 17, 18, 23, 24, 25, 26, 27, 28, 29, 30, 31, 32] (by decide +kernel) (by decide +kernel)
set_option maxRecDepth 20000 in
theorem gX0_growMoss_X0_hasYealm : GoodIn wsX0_growMoss (wsV RX0 51 RX0 yX0_hasYealm wsX0_hasYealm) := goodIn_app (goodIn_of _ (by decide +kernel)) ggX0_growMoss_X0_hasYealm
set_option maxRecDepth 20000 in
theorem ggX0_growMoss_X0_numberOf : GoodIn wsX0_growMoss wsX0_numberOf := goodIn_r _ [22, 17, 23, 24, 25, 26, 27, 28, 29, 30, 31, 32] (by decide +kernel) (by decide +kernel)
set_option maxRecDepth 20000 in
theorem gX0_growMoss_X0_numberOf : GoodIn wsX0_growMoss (wsV RX0 61 RX0 yX0_numberOf wsX0_numberOf) := goodIn_app (goodIn_of _ (by decide +kernel)) ggX0_growMoss_X0_numberOf
theorem dX0_growMoss_0 : decode cX0_growMoss 0 = .ok (.iload_n 2, 1) := by decide +kernel
theorem dX0_growMoss_1 : decode cX0_growMoss 1 = .ok (.iconst 5, 1) := by decide +kernel
theorem dX0_growMoss_2 : decode cX0_growMoss 2 = .ok (.if_icmp .lt 12, 3) := by decide +kernel
theorem dX0_growMoss_5 : decode cX0_growMoss 5 = .ok (.aload_n 0, 1) := by decide +kernel
theorem dX0_growMoss_6 : decode cX0_growMoss 6 = .ok (.getfield 31, 3) := by decide +kernel
theorem dX0_growMoss_9 : decode cX0_growMoss 9 = .ok (.bipush 45, 2) := by decide +kernel
theorem dX0_growMoss_11 : decode cX0_growMoss 11 = .ok (.if_icmp .lt 4, 3) := by decide +kernel
theorem dX0_growMoss_14 : decode cX0_growMoss 14 = .ok (.return_, 1) := by decide +kernel
theorem dX0_growMoss_15 : decode cX0_growMoss 15 = .ok (.iconst 0, 1) := by decide +kernel
theorem dX0_growMoss_16 : decode cX0_growMoss 16 = .ok (.istore_n 3, 1) := by decide +kernel
theorem dX0_growMoss_17 : decode cX0_growMoss 17 = .ok (.iload_n 3, 1) := by decide +kernel
theorem dX0_growMoss_18 : decode cX0_growMoss 18 = .ok (.aload_n 0, 1) := by decide +kernel
theorem dX0_growMoss_19 : decode cX0_growMoss 19 = .ok (.getfield 28, 3) := by decide +kernel
theorem dX0_growMoss_22 : decode cX0_growMoss 22 = .ok (.if_icmp .ge 47, 3) := by decide +kernel
theorem dX0_growMoss_25 : decode cX0_growMoss 25 = .ok (.aload_n 0, 1) := by decide +kernel
theorem dX0_growMoss_26 : decode cX0_growMoss 26 = .ok (.iload_n 3, 1) := by decide +kernel
theorem dX0_growMoss_27 : decode cX0_growMoss 27 = .ok (.iload_n 1, 1) := by decide +kernel
theorem dX0_growMoss_28 : decode cX0_growMoss 28 = .ok (.invokevirtual 51, 3) := by decide +kernel
theorem dX0_growMoss_31 : decode cX0_growMoss 31 = .ok (.ifCond .eq 32, 3) := by decide +kernel
theorem dX0_growMoss_34 : decode cX0_growMoss 34 = .ok (.aload_n 0, 1) := by decide +kernel
theorem dX0_growMoss_35 : decode cX0_growMoss 35 = .ok (.iload_n 3, 1) := by decide +kernel
theorem dX0_growMoss_36 : decode cX0_growMoss 36 = .ok (.iload_n 1, 1) := by decide +kernel
theorem dX0_growMoss_37 : decode cX0_growMoss 37 = .ok (.invokevirtual 61, 3) := by decide +kernel
theorem dX0_growMoss_40 : decode cX0_growMoss 40 = .ok (.istore 4, 2) := by decide +kernel
theorem dX0_growMoss_42 : decode cX0_growMoss 42 = .ok (.aload_n 0, 1) := by decide +kernel
theorem dX0_growMoss_43 : decode cX0_growMoss 43 = .ok (.getfield 21, 3) := by decide +kernel
theorem dX0_growMoss_46 : decode cX0_growMoss 46 = .ok (.iload 4, 2) := by decide +kernel
theorem dX0_growMoss_48 : decode cX0_growMoss 48 = .ok (.aload_n 0, 1) := by decide +kernel
theorem dX0_growMoss_49 : decode cX0_growMoss 49 = .ok (.getfield 21, 3) := by decide +kernel
theorem dX0_growMoss_52 : decode cX0_growMoss 52 = .ok (.iload 4, 2) := by decide +kernel
theorem dX0_growMoss_54 : decode cX0_growMoss 54 = .ok (.iaload, 1) := by decide +kernel
theorem dX0_growMoss_55 : decode cX0_growMoss 55 = .ok (.iconst 1, 1) := by decide +kernel
theorem dX0_growMoss_56 : decode cX0_growMoss 56 = .ok (.iadd, 1) := by decide +kernel
theorem dX0_growMoss_57 : decode cX0_growMoss 57 = .ok (.bipush 9, 2) := by decide +kernel
theorem dX0_growMoss_59 : decode cX0_growMoss 59 = .ok (.invokestatic 64, 3) := by decide +kernel
theorem dX0_growMoss_62 : decode cX0_growMoss 62 = .ok (.iastore, 1) := by decide +kernel
theorem dX0_growMoss_63 : decode cX0_growMoss 63 = .ok (.iinc 3 1, 3) := by decide +kernel
theorem dX0_growMoss_66 : decode cX0_growMoss 66 = .ok (.goto (-49), 3) := by decide +kernel
theorem dX0_growMoss_69 : decode cX0_growMoss 69 = .ok (.return_, 1) := by decide +kernel
set_option maxRecDepth 20000 in
theorem ggX0_stormOn_X0_wouldTear : GoodIn wsX0_stormOn wsX0_wouldTear := goodIn_r _ [7, 8, 2, 9, 10, 11, 12, 6, 13, 14, 15, 16, 17, 1, 18, 19, 20, 21, 22, 23, 24, 25, 26, 27, 28, 29, 30, 31, 32, 33, 34, 35, 36, 37, 38, 39, 40, 41, 42, 43, 44] (by decide +kernel) (by decide +kernel)
set_option maxRecDepth 20000 in
theorem gX0_stormOn_X0_wouldTear : GoodIn wsX0_stormOn (wsV RX0 116 RX0 yX0_wouldTear wsX0_wouldTear) := goodIn_app (goodIn_of _ (by decide +kernel)) ggX0_stormOn_X0_wouldTear
set_option maxRecDepth 20000 in
theorem ggX0_stormOn_X0_numberOf : GoodIn wsX0_stormOn wsX0_numberOf := goodIn_r _ [22, 18, 35, 36, 37, 38, 39, 40, 41, 42, 43, 44] (by decide +kernel) (by decide +kernel)
set_option maxRecDepth 20000 in
theorem gX0_stormOn_X0_numberOf : GoodIn wsX0_stormOn (wsV RX0 61 RX0 yX0_numberOf wsX0_numberOf) := goodIn_app (goodIn_of _ (by decide +kernel)) ggX0_stormOn_X0_numberOf
theorem dX0_stormOn_0 : decode cX0_stormOn 0 = .ok (.iconst 0, 1) := by decide +kernel
theorem dX0_stormOn_1 : decode cX0_stormOn 1 = .ok (.istore_n 3, 1) := by decide +kernel
theorem dX0_stormOn_2 : decode cX0_stormOn 2 = .ok (.iconst 0, 1) := by decide +kernel
theorem dX0_stormOn_3 : decode cX0_stormOn 3 = .ok (.istore 4, 2) := by decide +kernel
theorem dX0_stormOn_5 : decode cX0_stormOn 5 = .ok (.iload 4, 2) := by decide +kernel
theorem dX0_stormOn_7 : decode cX0_stormOn 7 = .ok (.aload_n 0, 1) := by decide +kernel
theorem dX0_stormOn_8 : decode cX0_stormOn 8 = .ok (.getfield 28, 3) := by decide +kernel
theorem dX0_stormOn_11 : decode cX0_stormOn 11 = .ok (.if_icmp .ge 36, 3) := by decide +kernel
theorem dX0_stormOn_14 : decode cX0_stormOn 14 = .ok (.aload_n 0, 1) := by decide +kernel
theorem dX0_stormOn_15 : decode cX0_stormOn 15 = .ok (.iload 4, 2) := by decide +kernel
theorem dX0_stormOn_17 : decode cX0_stormOn 17 = .ok (.iload_n 1, 1) := by decide +kernel
theorem dX0_stormOn_18 : decode cX0_stormOn 18 = .ok (.iload_n 2, 1) := by decide +kernel
theorem dX0_stormOn_19 : decode cX0_stormOn 19 = .ok (.invokevirtual 116, 3) := by decide +kernel
theorem dX0_stormOn_22 : decode cX0_stormOn 22 = .ok (.ifCond .eq 19, 3) := by decide +kernel
theorem dX0_stormOn_25 : decode cX0_stormOn 25 = .ok (.aload_n 0, 1) := by decide +kernel
theorem dX0_stormOn_26 : decode cX0_stormOn 26 = .ok (.getfield 15, 3) := by decide +kernel
theorem dX0_stormOn_29 : decode cX0_stormOn 29 = .ok (.aload_n 0, 1) := by decide +kernel
theorem dX0_stormOn_30 : decode cX0_stormOn 30 = .ok (.iload 4, 2) := by decide +kernel
theorem dX0_stormOn_32 : decode cX0_stormOn 32 = .ok (.iload_n 1, 1) := by decide +kernel
theorem dX0_stormOn_33 : decode cX0_stormOn 33 = .ok (.invokevirtual 61, 3) := by decide +kernel
theorem dX0_stormOn_36 : decode cX0_stormOn 36 = .ok (.iconst 0, 1) := by decide +kernel
theorem dX0_stormOn_37 : decode cX0_stormOn 37 = .ok (.iastore, 1) := by decide +kernel
theorem dX0_stormOn_38 : decode cX0_stormOn 38 = .ok (.iinc 3 1, 3) := by decide +kernel
theorem dX0_stormOn_41 : decode cX0_stormOn 41 = .ok (.iinc 4 1, 3) := by decide +kernel
theorem dX0_stormOn_44 : decode cX0_stormOn 44 = .ok (.goto (-39), 3) := by decide +kernel
theorem dX0_stormOn_47 : decode cX0_stormOn 47 = .ok (.iload_n 3, 1) := by decide +kernel
theorem dX0_stormOn_48 : decode cX0_stormOn 48 = .ok (.ireturn, 1) := by decide +kernel
set_option maxRecDepth 20000 in
theorem ggX0_wouldTear_X0_hasYealm : GoodIn wsX0_wouldTear wsX0_hasYealm := goodIn_r _ [8, 9, 10, 11, 7, 12, 13, 14, 2, 31, 32, 33, 34, 35, 36, 37, 38, 39, 40] (by decide +kernel) (by decide +kernel)
set_option maxRecDepth 20000 in
theorem gX0_wouldTear_X0_hasYealm : GoodIn wsX0_wouldTear (wsV RX0 51 RX0 yX0_hasYealm wsX0_hasYealm) := goodIn_app (goodIn_of _ (by decide +kernel)) ggX0_wouldTear_X0_hasYealm
set_option maxRecDepth 20000 in
theorem ggX0_wouldTear_X0_numberOf : GoodIn wsX0_wouldTear wsX0_numberOf := goodIn_r _ [18, 14, 31, 32, 33, 34, 35, 36, 37, 38, 39, 40] (by decide +kernel) (by decide +kernel)
set_option maxRecDepth 20000 in
theorem gX0_wouldTear_X0_numberOf : GoodIn wsX0_wouldTear (wsV RX0 61 RX0 yX0_numberOf wsX0_numberOf) := goodIn_app (goodIn_of _ (by decide +kernel)) ggX0_wouldTear_X0_numberOf
set_option maxRecDepth 20000 in
theorem ggX0_wouldTear_X0_isBare : GoodIn wsX0_wouldTear wsX0_isBare := goodIn_r _ [22, 23, 24, 25, 7, 26, 13, 9, 10, 11, 12, 14, 2, 31, 32, 33, 34, 35, 36, 37, 38, 39, 40] (by decide +kernel) (by decide +kernel)
set_option maxRecDepth 20000 in
theorem gX0_wouldTear_X0_isBare : GoodIn wsX0_wouldTear (wsV RX0 69 RX0 yX0_isBare wsX0_isBare) := goodIn_app (goodIn_of _ (by decide +kernel)) ggX0_wouldTear_X0_isBare
set_option maxRecDepth 20000 in
theorem ggX0_wouldTear_X0_isEnd : GoodIn wsX0_wouldTear wsX0_isEnd := goodIn_r _ [30, 14, 31, 32, 33, 34, 35, 36, 37, 38, 39, 40] (by decide +kernel) (by decide +kernel)
set_option maxRecDepth 20000 in
theorem gX0_wouldTear_X0_isEnd : GoodIn wsX0_wouldTear (wsV RX0 120 RX0 yX0_isEnd wsX0_isEnd) := goodIn_app (goodIn_of _ (by decide +kernel)) ggX0_wouldTear_X0_isEnd
set_option maxRecDepth 20000 in
theorem ggX0_wouldTear_X0_isHighest : GoodIn wsX0_wouldTear wsX0_isHighest := goodIn_r _ [26, 13, 31, 32, 33, 34, 35, 36, 37, 38, 39, 40] (by decide +kernel) (by decide +kernel)
set_option maxRecDepth 20000 in
theorem gX0_wouldTear_X0_isHighest : GoodIn wsX0_wouldTear (wsV RX0 55 RX0 yX0_isHighest wsX0_isHighest) := goodIn_app (goodIn_of _ (by decide +kernel)) ggX0_wouldTear_X0_isHighest
theorem dX0_wouldTear_0 : decode cX0_wouldTear 0 = .ok (.aload_n 0, 1) := by decide +kernel
theorem dX0_wouldTear_1 : decode cX0_wouldTear 1 = .ok (.iload_n 1, 1) := by decide +kernel
theorem dX0_wouldTear_2 : decode cX0_wouldTear 2 = .ok (.iload_n 2, 1) := by decide +kernel
theorem dX0_wouldTear_3 : decode cX0_wouldTear 3 = .ok (.invokevirtual 51, 3) := by decide +kernel
theorem dX0_wouldTear_6 : decode cX0_wouldTear 6 = .ok (.ifCond .ne 5, 3) := by decide +kernel
theorem dX0_wouldTear_9 : decode cX0_wouldTear 9 = .ok (.iconst 0, 1) := by decide +kernel
theorem dX0_wouldTear_10 : decode cX0_wouldTear 10 = .ok (.ireturn, 1) := by decide +kernel
theorem dX0_wouldTear_11 : decode cX0_wouldTear 11 = .ok (.aload_n 0, 1) := by decide +kernel
theorem dX0_wouldTear_12 : decode cX0_wouldTear 12 = .ok (.iload_n 1, 1) := by decide +kernel
theorem dX0_wouldTear_13 : decode cX0_wouldTear 13 = .ok (.iload_n 2, 1) := by decide +kernel
theorem dX0_wouldTear_14 : decode cX0_wouldTear 14 = .ok (.invokevirtual 61, 3) := by decide +kernel
theorem dX0_wouldTear_17 : decode cX0_wouldTear 17 = .ok (.istore 4, 2) := by decide +kernel
theorem dX0_wouldTear_19 : decode cX0_wouldTear 19 = .ok (.iload_n 3, 1) := by decide +kernel
theorem dX0_wouldTear_20 : decode cX0_wouldTear 20 = .ok (.iconst 2, 1) := by decide +kernel
theorem dX0_wouldTear_21 : decode cX0_wouldTear 21 = .ok (.imul, 1) := by decide +kernel
theorem dX0_wouldTear_22 : decode cX0_wouldTear 22 = .ok (.aload_n 0, 1) := by decide +kernel
theorem dX0_wouldTear_23 : decode cX0_wouldTear 23 = .ok (.iload_n 1, 1) := by decide +kernel
theorem dX0_wouldTear_24 : decode cX0_wouldTear 24 = .ok (.iload_n 2, 1) := by decide +kernel
theorem dX0_wouldTear_25 : decode cX0_wouldTear 25 = .ok (.invokevirtual 69, 3) := by decide +kernel
theorem dX0_wouldTear_28 : decode cX0_wouldTear 28 = .ok (.ifCond .eq 7, 3) := by decide +kernel
theorem dX0_wouldTear_31 : decode cX0_wouldTear 31 = .ok (.iconst 3, 1) := by decide +kernel
theorem dX0_wouldTear_32 : decode cX0_wouldTear 32 = .ok (.goto 4, 3) := by decide +kernel
theorem dX0_wouldTear_35 : decode cX0_wouldTear 35 = .ok (.iconst 0, 1) := by decide +kernel
theorem dX0_wouldTear_36 : decode cX0_wouldTear 36 = .ok (.iadd, 1) := by decide +kernel
theorem dX0_wouldTear_37 : decode cX0_wouldTear 37 = .ok (.aload_n 0, 1) := by decide +kernel
theorem dX0_wouldTear_38 : decode cX0_wouldTear 38 = .ok (.iload_n 2, 1) := by decide +kernel
theorem dX0_wouldTear_39 : decode cX0_wouldTear 39 = .ok (.invokevirtual 120, 3) := by decide +kernel
theorem dX0_wouldTear_42 : decode cX0_wouldTear 42 = .ok (.ifCond .eq 7, 3) := by decide +kernel
theorem dX0_wouldTear_45 : decode cX0_wouldTear 45 = .ok (.iconst 2, 1) := by decide +kernel
theorem dX0_wouldTear_46 : decode cX0_wouldTear 46 = .ok (.goto 4, 3) := by decide +kernel
theorem dX0_wouldTear_49 : decode cX0_wouldTear 49 = .ok (.iconst 0, 1) := by decide +kernel
theorem dX0_wouldTear_50 : decode cX0_wouldTear 50 = .ok (.iadd, 1) := by decide +kernel
theorem dX0_wouldTear_51 : decode cX0_wouldTear 51 = .ok (.istore 5, 2) := by decide +kernel
theorem dX0_wouldTear_53 : decode cX0_wouldTear 53 = .ok (.iconst 2, 1) := by decide +kernel
theorem dX0_wouldTear_54 : decode cX0_wouldTear 54 = .ok (.aload_n 0, 1) := by decide +kernel
theorem dX0_wouldTear_55 : decode cX0_wouldTear 55 = .ok (.getfield 18, 3) := by decide +kernel
theorem dX0_wouldTear_58 : decode cX0_wouldTear 58 = .ok (.iload 4, 2) := by decide +kernel
theorem dX0_wouldTear_60 : decode cX0_wouldTear 60 = .ok (.iaload, 1) := by decide +kernel
theorem dX0_wouldTear_61 : decode cX0_wouldTear 61 = .ok (.imul, 1) := by decide +kernel
theorem dX0_wouldTear_62 : decode cX0_wouldTear 62 = .ok (.aload_n 0, 1) := by decide +kernel
theorem dX0_wouldTear_63 : decode cX0_wouldTear 63 = .ok (.getfield 15, 3) := by decide +kernel
theorem dX0_wouldTear_66 : decode cX0_wouldTear 66 = .ok (.iload 4, 2) := by decide +kernel
theorem dX0_wouldTear_68 : decode cX0_wouldTear 68 = .ok (.iaload, 1) := by decide +kernel
theorem dX0_wouldTear_69 : decode cX0_wouldTear 69 = .ok (.iconst 4, 1) := by decide +kernel
theorem dX0_wouldTear_70 : decode cX0_wouldTear 70 = .ok (.idiv, 1) := by decide +kernel
theorem dX0_wouldTear_71 : decode cX0_wouldTear 71 = .ok (.iadd, 1) := by decide +kernel
theorem dX0_wouldTear_72 : decode cX0_wouldTear 72 = .ok (.aload_n 0, 1) := by decide +kernel
theorem dX0_wouldTear_73 : decode cX0_wouldTear 73 = .ok (.iload_n 1, 1) := by decide +kernel
theorem dX0_wouldTear_74 : decode cX0_wouldTear 74 = .ok (.invokevirtual 55, 3) := by decide +kernel
theorem dX0_wouldTear_77 : decode cX0_wouldTear 77 = .ok (.ifCond .eq 13, 3) := by decide +kernel
theorem dX0_wouldTear_80 : decode cX0_wouldTear 80 = .ok (.aload_n 0, 1) := by decide +kernel
theorem dX0_wouldTear_81 : decode cX0_wouldTear 81 = .ok (.getfield 34, 3) := by decide +kernel
theorem dX0_wouldTear_84 : decode cX0_wouldTear 84 = .ok (.bipush 20, 2) := by decide +kernel
theorem dX0_wouldTear_86 : decode cX0_wouldTear 86 = .ok (.idiv, 1) := by decide +kernel
theorem dX0_wouldTear_87 : decode cX0_wouldTear 87 = .ok (.goto 4, 3) := by decide +kernel
theorem dX0_wouldTear_90 : decode cX0_wouldTear 90 = .ok (.iconst 0, 1) := by decide +kernel
theorem dX0_wouldTear_91 : decode cX0_wouldTear 91 = .ok (.iadd, 1) := by decide +kernel
theorem dX0_wouldTear_92 : decode cX0_wouldTear 92 = .ok (.istore 6, 2) := by decide +kernel
theorem dX0_wouldTear_94 : decode cX0_wouldTear 94 = .ok (.iload 5, 2) := by decide +kernel
theorem dX0_wouldTear_96 : decode cX0_wouldTear 96 = .ok (.iload 6, 2) := by decide +kernel
theorem dX0_wouldTear_98 : decode cX0_wouldTear 98 = .ok (.if_icmp .le 7, 3) := by decide +kernel
theorem dX0_wouldTear_101 : decode cX0_wouldTear 101 = .ok (.iconst 1, 1) := by decide +kernel
theorem dX0_wouldTear_102 : decode cX0_wouldTear 102 = .ok (.goto 4, 3) := by decide +kernel
theorem dX0_wouldTear_105 : decode cX0_wouldTear 105 = .ok (.iconst 0, 1) := by decide +kernel
theorem dX0_wouldTear_106 : decode cX0_wouldTear 106 = .ok (.ireturn, 1) := by decide +kernel
set_option maxRecDepth 20000 in
theorem ggX0_wouldTearInAll_X0_wouldTear : GoodIn wsX0_wouldTearInAll wsX0_wouldTear := goodIn_r _ [7, 8, 9, 10, 11, 12, 13, 6, 14, 15, 16, 17, 18, 1, 2, 19, 20, 21, 22, 23, 24, 25, 26, 27, 28, 29, 30, 31, 32, 33, 34, 35, 36, 37, 38, 39, 40, 41, 42, 43, 44] (by decide +kernel) (by decide +kernel)
set_option maxRecDepth 20000 in
theorem gX0_wouldTearInAll_X0_wouldTear : GoodIn wsX0_wouldTearInAll (wsV RX0 116 RX0 yX0_wouldTear wsX0_wouldTear) := goodIn_app (goodIn_of _ (by decide +kernel)) ggX0_wouldTearInAll_X0_wouldTear
theorem dX0_wouldTearInAll_0 : decode cX0_wouldTearInAll 0 = .ok (.iconst 0, 1) := by decide +kernel
theorem dX0_wouldTearInAll_1 : decode cX0_wouldTearInAll 1 = .ok (.istore_n 2, 1) := by decide +kernel
theorem dX0_wouldTearInAll_2 : decode cX0_wouldTearInAll 2 = .ok (.iconst 0, 1) := by decide +kernel
theorem dX0_wouldTearInAll_3 : decode cX0_wouldTearInAll 3 = .ok (.istore_n 3, 1) := by decide +kernel
theorem dX0_wouldTearInAll_4 : decode cX0_wouldTearInAll 4 = .ok (.iload_n 3, 1) := by decide +kernel
theorem dX0_wouldTearInAll_5 : decode cX0_wouldTearInAll 5 = .ok (.aload_n 0, 1) := by decide +kernel
theorem dX0_wouldTearInAll_6 : decode cX0_wouldTearInAll 6 = .ok (.getfield 28, 3) := by decide +kernel
theorem dX0_wouldTearInAll_9 : decode cX0_wouldTearInAll 9 = .ok (.if_icmp .ge 41, 3) := by decide +kernel
theorem dX0_wouldTearInAll_12 : decode cX0_wouldTearInAll 12 = .ok (.iconst 0, 1) := by decide +kernel
theorem dX0_wouldTearInAll_13 : decode cX0_wouldTearInAll 13 = .ok (.istore 4, 2) := by decide +kernel
theorem dX0_wouldTearInAll_15 : decode cX0_wouldTearInAll 15 = .ok (.iload 4, 2) := by decide +kernel
theorem dX0_wouldTearInAll_17 : decode cX0_wouldTearInAll 17 = .ok (.aload_n 0, 1) := by decide +kernel
theorem dX0_wouldTearInAll_18 : decode cX0_wouldTearInAll 18 = .ok (.getfield 24, 3) := by decide +kernel
theorem dX0_wouldTearInAll_21 : decode cX0_wouldTearInAll 21 = .ok (.if_icmp .ge 23, 3) := by decide +kernel
theorem dX0_wouldTearInAll_24 : decode cX0_wouldTearInAll 24 = .ok (.aload_n 0, 1) := by decide +kernel
theorem dX0_wouldTearInAll_25 : decode cX0_wouldTearInAll 25 = .ok (.iload_n 3, 1) := by decide +kernel
theorem dX0_wouldTearInAll_26 : decode cX0_wouldTearInAll 26 = .ok (.iload 4, 2) := by decide +kernel
theorem dX0_wouldTearInAll_28 : decode cX0_wouldTearInAll 28 = .ok (.iload_n 1, 1) := by decide +kernel
theorem dX0_wouldTearInAll_29 : decode cX0_wouldTearInAll 29 = .ok (.invokevirtual 116, 3) := by decide +kernel
theorem dX0_wouldTearInAll_32 : decode cX0_wouldTearInAll 32 = .ok (.ifCond .eq 6, 3) := by decide +kernel
theorem dX0_wouldTearInAll_35 : decode cX0_wouldTearInAll 35 = .ok (.iinc 2 1, 3) := by decide +kernel
theorem dX0_wouldTearInAll_38 : decode cX0_wouldTearInAll 38 = .ok (.iinc 4 1, 3) := by decide +kernel
theorem dX0_wouldTearInAll_41 : decode cX0_wouldTearInAll 41 = .ok (.goto (-26), 3) := by decide +kernel
theorem dX0_wouldTearInAll_44 : decode cX0_wouldTearInAll 44 = .ok (.iinc 3 1, 3) := by decide +kernel
theorem dX0_wouldTearInAll_47 : decode cX0_wouldTearInAll 47 = .ok (.goto (-43), 3) := by decide +kernel
theorem dX0_wouldTearInAll_50 : decode cX0_wouldTearInAll 50 = .ok (.iload_n 2, 1) := by decide +kernel
theorem dX0_wouldTearInAll_51 : decode cX0_wouldTearInAll 51 = .ok (.ireturn, 1) := by decide +kernel
set_option maxRecDepth 20000 in
theorem ggX1_init_X0_init : GoodIn wsX1_init wsX0_init := goodIn_r _ [15, 16, 2, 3, 6, 17, 18, 19, 20, 21, 22, 23, 24, 32, 33, 34, 35, 36, 37, 38, 39, 40, 41] (by decide +kernel) (by decide +kernel)
set_option maxRecDepth 20000 in
theorem gX1_init_X0_init : GoodIn wsX1_init (wsX0_init) := ggX1_init_X0_init
