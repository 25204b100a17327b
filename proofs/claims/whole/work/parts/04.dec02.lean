theorem dX2_fillRows_43 : decode cX2_fillRows 43 = .ok (.aload_n 0, 1) := by decide +kernel
theorem dX2_fillRows_44 : decode cX2_fillRows 44 = .ok (.iload_n 2, 1) := by decide +kernel
theorem dX2_fillRows_45 : decode cX2_fillRows 45 = .ok (.iload_n 1, 1) := by decide +kernel
theorem dX2_fillRows_46 : decode cX2_fillRows 46 = .ok (.invokevirtual 94, 3) := by decide +kernel
theorem dX2_fillRows_49 : decode cX2_fillRows 49 = .ok (.iconst 0, 1) := by decide +kernel
theorem dX2_fillRows_50 : decode cX2_fillRows 50 = .ok (.istore_n 3, 1) := by decide +kernel
theorem dX2_fillRows_51 : decode cX2_fillRows 51 = .ok (.iload_n 3, 1) := by decide +kernel
theorem dX2_fillRows_52 : decode cX2_fillRows 52 = .ok (.bipush 20, 2) := by decide +kernel
theorem dX2_fillRows_54 : decode cX2_fillRows 54 = .ok (.if_icmp .ge 16, 3) := by decide +kernel
theorem dX2_fillRows_57 : decode cX2_fillRows 57 = .ok (.aload_n 0, 1) := by decide +kernel
theorem dX2_fillRows_58 : decode cX2_fillRows 58 = .ok (.iload_n 2, 1) := by decide +kernel
theorem dX2_fillRows_59 : decode cX2_fillRows 59 = .ok (.iload_n 1, 1) := by decide +kernel
theorem dX2_fillRows_60 : decode cX2_fillRows 60 = .ok (.iload_n 3, 1) := by decide +kernel
theorem dX2_fillRows_61 : decode cX2_fillRows 61 = .ok (.invokevirtual 98, 3) := by decide +kernel
theorem dX2_fillRows_64 : decode cX2_fillRows 64 = .ok (.iinc 3 1, 3) := by decide +kernel
theorem dX2_fillRows_67 : decode cX2_fillRows 67 = .ok (.goto (-16), 3) := by decide +kernel
theorem dX2_fillRows_70 : decode cX2_fillRows 70 = .ok (.iinc 2 1, 3) := by decide +kernel
theorem dX2_fillRows_73 : decode cX2_fillRows 73 = .ok (.goto (-36), 3) := by decide +kernel
theorem dX2_fillRows_76 : decode cX2_fillRows 76 = .ok (.iinc 1 1, 3) := by decide +kernel
theorem dX2_fillRows_79 : decode cX2_fillRows 79 = .ok (.goto (-77), 3) := by decide +kernel
theorem dX2_fillRows_82 : decode cX2_fillRows 82 = .ok (.return_, 1) := by decide +kernel
theorem dX2_takeOverLesserWind_0 : decode cX2_takeOverLesserWind 0 = .ok (.iload_n 2, 1) := by decide +kernel
theorem dX2_takeOverLesserWind_1 : decode cX2_takeOverLesserWind 1 = .ok (.iconst 1, 1) := by decide +kernel
theorem dX2_takeOverLesserWind_2 : decode cX2_takeOverLesserWind 2 = .ok (.if_icmp .ge 4, 3) := by decide +kernel
theorem dX2_takeOverLesserWind_5 : decode cX2_takeOverLesserWind 5 = .ok (.return_, 1) := by decide +kernel
theorem dX2_takeOverLesserWind_6 : decode cX2_takeOverLesserWind 6 = .ok (.iload_n 1, 1) := by decide +kernel
theorem dX2_takeOverLesserWind_7 : decode cX2_takeOverLesserWind 7 = .ok (.iconst 4, 1) := by decide +kernel
theorem dX2_takeOverLesserWind_8 : decode cX2_takeOverLesserWind 8 = .ok (.imul, 1) := by decide +kernel
theorem dX2_takeOverLesserWind_9 : decode cX2_takeOverLesserWind 9 = .ok (.iload_n 2, 1) := by decide +kernel
theorem dX2_takeOverLesserWind_10 : decode cX2_takeOverLesserWind 10 = .ok (.iadd, 1) := by decide +kernel
theorem dX2_takeOverLesserWind_11 : decode cX2_takeOverLesserWind 11 = .ok (.bipush 20, 2) := by decide +kernel
theorem dX2_takeOverLesserWind_13 : decode cX2_takeOverLesserWind 13 = .ok (.imul, 1) := by decide +kernel
theorem dX2_takeOverLesserWind_14 : decode cX2_takeOverLesserWind 14 = .ok (.istore_n 3, 1) := by decide +kernel
theorem dX2_takeOverLesserWind_15 : decode cX2_takeOverLesserWind 15 = .ok (.aload_n 0, 1) := by decide +kernel
theorem dX2_takeOverLesserWind_16 : decode cX2_takeOverLesserWind 16 = .ok (.getfield 11, 3) := by decide +kernel
theorem dX2_takeOverLesserWind_19 : decode cX2_takeOverLesserWind 19 = .ok (.iload_n 3, 1) := by decide +kernel
theorem dX2_takeOverLesserWind_20 : decode cX2_takeOverLesserWind 20 = .ok (.bipush 20, 2) := by decide +kernel
theorem dX2_takeOverLesserWind_22 : decode cX2_takeOverLesserWind 22 = .ok (.isub, 1) := by decide +kernel
theorem dX2_takeOverLesserWind_23 : decode cX2_takeOverLesserWind 23 = .ok (.aload_n 0, 1) := by decide +kernel
theorem dX2_takeOverLesserWind_24 : decode cX2_takeOverLesserWind 24 = .ok (.getfield 11, 3) := by decide +kernel
theorem dX2_takeOverLesserWind_27 : decode cX2_takeOverLesserWind 27 = .ok (.iload_n 3, 1) := by decide +kernel
theorem dX2_takeOverLesserWind_28 : decode cX2_takeOverLesserWind 28 = .ok (.bipush 20, 2) := by decide +kernel
theorem dX2_takeOverLesserWind_30 : decode cX2_takeOverLesserWind 30 = .ok (.invokestatic 102, 3) := by decide +kernel
theorem dX2_takeOverLesserWind_33 : decode cX2_takeOverLesserWind 33 = .ok (.aload_n 0, 1) := by decide +kernel
theorem dX2_takeOverLesserWind_34 : decode cX2_takeOverLesserWind 34 = .ok (.getfield 15, 3) := by decide +kernel
theorem dX2_takeOverLesserWind_37 : decode cX2_takeOverLesserWind 37 = .ok (.iload_n 3, 1) := by decide +kernel
theorem dX2_takeOverLesserWind_38 : decode cX2_takeOverLesserWind 38 = .ok (.bipush 20, 2) := by decide +kernel
theorem dX2_takeOverLesserWind_40 : decode cX2_takeOverLesserWind 40 = .ok (.isub, 1) := by decide +kernel
theorem dX2_takeOverLesserWind_41 : decode cX2_takeOverLesserWind 41 = .ok (.aload_n 0, 1) := by decide +kernel
theorem dX2_takeOverLesserWind_42 : decode cX2_takeOverLesserWind 42 = .ok (.getfield 15, 3) := by decide +kernel
theorem dX2_takeOverLesserWind_45 : decode cX2_takeOverLesserWind 45 = .ok (.iload_n 3, 1) := by decide +kernel
theorem dX2_takeOverLesserWind_46 : decode cX2_takeOverLesserWind 46 = .ok (.bipush 20, 2) := by decide +kernel
theorem dX2_takeOverLesserWind_48 : decode cX2_takeOverLesserWind 48 = .ok (.invokestatic 102, 3) := by decide +kernel
theorem dX2_takeOverLesserWind_51 : decode cX2_takeOverLesserWind 51 = .ok (.return_, 1) := by decide +kernel
set_option maxRecDepth 20000 in
theorem ggX2_fillOwn_X2_shortTune : GoodIn wsX2_fillOwn wsX2_shortTune := goodIn_r _ [8] (by decide +kernel) (by decide +kernel)
set_option maxRecDepth 20000 in
theorem gX2_fillOwn_X2_shortTune : GoodIn wsX2_fillOwn (va_wsS RX2 86 yX2_shortTune wsX2_shortTune) := goodIn_app (goodIn_of _ (by decide +kernel)) ggX2_fillOwn_X2_shortTune
set_option maxRecDepth 20000 in
theorem ggX2_fillOwn_X1_makeReady : GoodIn wsX2_fillOwn wsX1_makeReady := goodIn_r _ [13, 14, 15, 16, 17, 18, 19, 20, 21, 22, 23, 24, 25, 26, 27, 57, 58, 59, 60] (by decide +kernel) (by decide +kernel)
set_option maxRecDepth 20000 in
theorem gX2_fillOwn_X1_makeReady : GoodIn wsX2_fillOwn (wsV RX2 108 RX1 yX1_makeReady wsX1_makeReady) := goodIn_app (goodIn_of _ (by decide +kernel)) ggX2_fillOwn_X1_makeReady
set_option maxRecDepth 20000 in
theorem ggX2_fillOwn_X1_turnsAt : GoodIn wsX2_fillOwn wsX1_turnsAt := goodIn_r _ [31, 17, 14, 15, 16, 32, 33, 34, 12, 35, 36, 37, 20, 38, 39, 40, 41, 42, 43, 23, 24, 44, 45, 46, 57, 58, 59, 60] (by decide +kernel) (by decide +kernel)
set_option maxRecDepth 20000 in
theorem gX2_fillOwn_X1_turnsAt : GoodIn wsX2_fillOwn (wsV RX2 111 RX1 yX1_turnsAt wsX1_turnsAt) := goodIn_app (goodIn_of _ (by decide +kernel)) ggX2_fillOwn_X1_turnsAt
theorem dX2_fillOwn_0 : decode cX2_fillOwn 0 = .ok (.iload_n 1, 1) := by decide +kernel
theorem dX2_fillOwn_1 : decode cX2_fillOwn 1 = .ok (.iconst 4, 1) := by decide +kernel
theorem dX2_fillOwn_2 : decode cX2_fillOwn 2 = .ok (.imul, 1) := by decide +kernel
theorem dX2_fillOwn_3 : decode cX2_fillOwn 3 = .ok (.iload_n 2, 1) := by decide +kernel
theorem dX2_fillOwn_4 : decode cX2_fillOwn 4 = .ok (.iadd, 1) := by decide +kernel
theorem dX2_fillOwn_5 : decode cX2_fillOwn 5 = .ok (.bipush 20, 2) := by decide +kernel
theorem dX2_fillOwn_7 : decode cX2_fillOwn 7 = .ok (.imul, 1) := by decide +kernel
theorem dX2_fillOwn_8 : decode cX2_fillOwn 8 = .ok (.istore 4, 2) := by decide +kernel
theorem dX2_fillOwn_10 : decode cX2_fillOwn 10 = .ok (.aload_n 0, 1) := by decide +kernel
theorem dX2_fillOwn_11 : decode cX2_fillOwn 11 = .ok (.getfield 24, 3) := by decide +kernel
theorem dX2_fillOwn_14 : decode cX2_fillOwn 14 = .ok (.iload_n 1, 1) := by decide +kernel
theorem dX2_fillOwn_15 : decode cX2_fillOwn 15 = .ok (.iload_n 3, 1) := by decide +kernel
theorem dX2_fillOwn_16 : decode cX2_fillOwn 16 = .ok (.invokestatic 86, 3) := by decide +kernel
theorem dX2_fillOwn_19 : decode cX2_fillOwn 19 = .ok (.iload_n 2, 1) := by decide +kernel
theorem dX2_fillOwn_20 : decode cX2_fillOwn 20 = .ok (.invokevirtual 108, 3) := by decide +kernel
theorem dX2_fillOwn_23 : decode cX2_fillOwn 23 = .ok (.iconst 0, 1) := by decide +kernel
theorem dX2_fillOwn_24 : decode cX2_fillOwn 24 = .ok (.istore 5, 2) := by decide +kernel
theorem dX2_fillOwn_26 : decode cX2_fillOwn 26 = .ok (.iload 5, 2) := by decide +kernel
theorem dX2_fillOwn_28 : decode cX2_fillOwn 28 = .ok (.bipush 20, 2) := by decide +kernel
theorem dX2_fillOwn_30 : decode cX2_fillOwn 30 = .ok (.if_icmp .ge 63, 3) := by decide +kernel
theorem dX2_fillOwn_33 : decode cX2_fillOwn 33 = .ok (.aload_n 0, 1) := by decide +kernel
theorem dX2_fillOwn_34 : decode cX2_fillOwn 34 = .ok (.getfield 24, 3) := by decide +kernel
theorem dX2_fillOwn_37 : decode cX2_fillOwn 37 = .ok (.iload 5, 2) := by decide +kernel
theorem dX2_fillOwn_39 : decode cX2_fillOwn 39 = .ok (.invokestatic 86, 3) := by decide +kernel
theorem dX2_fillOwn_42 : decode cX2_fillOwn 42 = .ok (.aload_n 0, 1) := by decide +kernel
theorem dX2_fillOwn_43 : decode cX2_fillOwn 43 = .ok (.getfield 18, 3) := by decide +kernel
theorem dX2_fillOwn_46 : decode cX2_fillOwn 46 = .ok (.iload 5, 2) := by decide +kernel
theorem dX2_fillOwn_48 : decode cX2_fillOwn 48 = .ok (.iaload, 1) := by decide +kernel
theorem dX2_fillOwn_49 : decode cX2_fillOwn 49 = .ok (.invokevirtual 111, 3) := by decide +kernel
theorem dX2_fillOwn_52 : decode cX2_fillOwn 52 = .ok (.ifCond .eq 35, 3) := by decide +kernel
theorem dX2_fillOwn_55 : decode cX2_fillOwn 55 = .ok (.aload_n 0, 1) := by decide +kernel
theorem dX2_fillOwn_56 : decode cX2_fillOwn 56 = .ok (.getfield 11, 3) := by decide +kernel
theorem dX2_fillOwn_59 : decode cX2_fillOwn 59 = .ok (.iload 4, 2) := by decide +kernel
theorem dX2_fillOwn_61 : decode cX2_fillOwn 61 = .ok (.iload_n 3, 1) := by decide +kernel
theorem dX2_fillOwn_62 : decode cX2_fillOwn 62 = .ok (.iadd, 1) := by decide +kernel
theorem dX2_fillOwn_63 : decode cX2_fillOwn 63 = .ok (.dup2, 1) := by decide +kernel
theorem dX2_fillOwn_64 : decode cX2_fillOwn 64 = .ok (.iaload, 1) := by decide +kernel
theorem dX2_fillOwn_65 : decode cX2_fillOwn 65 = .ok (.iconst 1, 1) := by decide +kernel
theorem dX2_fillOwn_66 : decode cX2_fillOwn 66 = .ok (.iload 5, 2) := by decide +kernel
theorem dX2_fillOwn_68 : decode cX2_fillOwn 68 = .ok (.ishl, 1) := by decide +kernel
theorem dX2_fillOwn_69 : decode cX2_fillOwn 69 = .ok (.ior, 1) := by decide +kernel
theorem dX2_fillOwn_70 : decode cX2_fillOwn 70 = .ok (.iastore, 1) := by decide +kernel
theorem dX2_fillOwn_71 : decode cX2_fillOwn 71 = .ok (.aload_n 0, 1) := by decide +kernel
theorem dX2_fillOwn_72 : decode cX2_fillOwn 72 = .ok (.getfield 15, 3) := by decide +kernel
theorem dX2_fillOwn_75 : decode cX2_fillOwn 75 = .ok (.iload 4, 2) := by decide +kernel
theorem dX2_fillOwn_77 : decode cX2_fillOwn 77 = .ok (.iload 5, 2) := by decide +kernel
theorem dX2_fillOwn_79 : decode cX2_fillOwn 79 = .ok (.iadd, 1) := by decide +kernel
theorem dX2_fillOwn_80 : decode cX2_fillOwn 80 = .ok (.dup2, 1) := by decide +kernel
theorem dX2_fillOwn_81 : decode cX2_fillOwn 81 = .ok (.iaload, 1) := by decide +kernel
theorem dX2_fillOwn_82 : decode cX2_fillOwn 82 = .ok (.iconst 1, 1) := by decide +kernel
theorem dX2_fillOwn_83 : decode cX2_fillOwn 83 = .ok (.iload_n 3, 1) := by decide +kernel
theorem dX2_fillOwn_84 : decode cX2_fillOwn 84 = .ok (.ishl, 1) := by decide +kernel
theorem dX2_fillOwn_85 : decode cX2_fillOwn 85 = .ok (.ior, 1) := by decide +kernel
theorem dX2_fillOwn_86 : decode cX2_fillOwn 86 = .ok (.iastore, 1) := by decide +kernel
theorem dX2_fillOwn_87 : decode cX2_fillOwn 87 = .ok (.iinc 5 1, 3) := by decide +kernel
theorem dX2_fillOwn_90 : decode cX2_fillOwn 90 = .ok (.goto (-64), 3) := by decide +kernel
theorem dX2_fillOwn_93 : decode cX2_fillOwn 93 = .ok (.return_, 1) := by decide +kernel
set_option maxRecDepth 20000 in
theorem ggX2_choose_X2_keepBest : GoodIn wsX2_choose wsX2_keepBest := goodIn_r _ [9, 2, 4, 10, 11, 12, 13, 14, 52, 53, 54, 55, 56, 57, 58, 59, 60, 61] (by decide +kernel) (by decide +kernel)
set_option maxRecDepth 20000 in
theorem gX2_choose_X2_keepBest : GoodIn wsX2_choose (wsV RX2 115 RX2 yX2_keepBest wsX2_keepBest) := goodIn_app (goodIn_of _ (by decide +kernel)) ggX2_choose_X2_keepBest
set_option maxRecDepth 20000 in
theorem ggX2_choose_X2_leastNotesFrom : GoodIn wsX2_choose wsX2_leastNotesFrom := goodIn_r _ [18, 3, 52, 53, 54, 55, 56, 57, 58, 59, 60, 61] (by decide +kernel) (by decide +kernel)
set_option maxRecDepth 20000 in
theorem gX2_choose_X2_leastNotesFrom : GoodIn wsX2_choose (wsV RX2 119 RX2 yX2_leastNotesFrom wsX2_leastNotesFrom) := goodIn_app (goodIn_of _ (by decide +kernel)) ggX2_choose_X2_leastNotesFrom
set_option maxRecDepth 20000 in
theorem ggX2_choose_X2_narrow : GoodIn wsX2_choose wsX2_narrow := goodIn_r _ [22, 1, 3, 23, 24, 25, 8, 26, 27, 28, 29, 30, 31, 32, 33, 34, 35, 36, 37, 38, 41, 42, 43, 44, 45, 46, 47, 48, 49, 50, 51, 52, 53, 54, 55, 56, 57, 58, 59, 60, 61] (by decide +kernel) (by decide +kernel)
set_option maxRecDepth 20000 in
theorem gX2_choose_X2_narrow : GoodIn wsX2_choose (wsV RX2 122 RX2 yX2_narrow wsX2_narrow) := goodIn_app (goodIn_of _ (by decide +kernel)) ggX2_choose_X2_narrow
set_option maxRecDepth 20000 in
theorem ggX2_choose_X2_choose : GoodIn wsX2_choose wsX2_choose := goodIn_r _ [0, 1, 2, 3, 4, 5, 6, 7, 8, 9, 10, 11, 12, 13, 14, 15, 16, 17, 18, 19, 20, 21, 22, 23, 24, 25, 26, 27, 28, 29, 30, 31, 32, 33, 34, 35, 36, 37, 38, 39, 40, 41, 42, 43, 44, 45, 46, 47, 48, 49, 50, 51, 52, 53, 54, 55, 56, 57, 58, 59, 60, 61] (by decide +kernel) (by decide +kernel)
set_option maxRecDepth 20000 in
theorem gX2_choose_X2_choose : GoodIn wsX2_choose (va_wsS RX2 64 yX2_choose wsX2_choose) := goodIn_app (goodIn_of _ (by decide +kernel)) ggX2_choose_X2_choose
theorem dX2_choose_0 : decode cX2_choose 0 = .ok (.iload_n 2, 1) := by decide +kernel
theorem dX2_choose_1 : decode cX2_choose 1 = .ok (.aload_n 1, 1) := by decide +kernel
theorem dX2_choose_2 : decode cX2_choose 2 = .ok (.getfield 40, 3) := by decide +kernel
theorem dX2_choose_5 : decode cX2_choose 5 = .ok (.if_icmp .ge 8, 3) := by decide +kernel
theorem dX2_choose_8 : decode cX2_choose 8 = .ok (.iload_n 2, 1) := by decide +kernel
theorem dX2_choose_9 : decode cX2_choose 9 = .ok (.iconst 5, 1) := by decide +kernel
theorem dX2_choose_10 : decode cX2_choose 10 = .ok (.if_icmp .lt 9, 3) := by decide +kernel
theorem dX2_choose_13 : decode cX2_choose 13 = .ok (.aload_n 0, 1) := by decide +kernel
theorem dX2_choose_14 : decode cX2_choose 14 = .ok (.iload_n 3, 1) := by decide +kernel
theorem dX2_choose_15 : decode cX2_choose 15 = .ok (.invokevirtual 115, 3) := by decide +kernel
theorem dX2_choose_18 : decode cX2_choose 18 = .ok (.return_, 1) := by decide +kernel
theorem dX2_choose_19 : decode cX2_choose 19 = .ok (.iload_n 3, 1) := by decide +kernel
theorem dX2_choose_20 : decode cX2_choose 20 = .ok (.aload_n 0, 1) := by decide +kernel
theorem dX2_choose_21 : decode cX2_choose 21 = .ok (.aload_n 1, 1) := by decide +kernel
theorem dX2_choose_22 : decode cX2_choose 22 = .ok (.getfield 40, 3) := by decide +kernel
theorem dX2_choose_25 : decode cX2_choose 25 = .ok (.iload_n 2, 1) := by decide +kernel
theorem dX2_choose_26 : decode cX2_choose 26 = .ok (.invokevirtual 119, 3) := by decide +kernel
theorem dX2_choose_29 : decode cX2_choose 29 = .ok (.iadd, 1) := by decide +kernel
theorem dX2_choose_30 : decode cX2_choose 30 = .ok (.aload_n 0, 1) := by decide +kernel
theorem dX2_choose_31 : decode cX2_choose 31 = .ok (.getfield 61, 3) := by decide +kernel
theorem dX2_choose_34 : decode cX2_choose 34 = .ok (.if_icmp .lt 4, 3) := by decide +kernel
theorem dX2_choose_37 : decode cX2_choose 37 = .ok (.return_, 1) := by decide +kernel
theorem dX2_choose_38 : decode cX2_choose 38 = .ok (.aload_n 0, 1) := by decide +kernel
theorem dX2_choose_39 : decode cX2_choose 39 = .ok (.getfield 31, 3) := by decide +kernel
theorem dX2_choose_42 : decode cX2_choose 42 = .ok (.iload_n 2, 1) := by decide +kernel
theorem dX2_choose_43 : decode cX2_choose 43 = .ok (.iconst 5, 1) := by decide +kernel
theorem dX2_choose_44 : decode cX2_choose 44 = .ok (.imul, 1) := by decide +kernel
theorem dX2_choose_45 : decode cX2_choose 45 = .ok (.iload_n 2, 1) := by decide +kernel
theorem dX2_choose_46 : decode cX2_choose 46 = .ok (.iadd, 1) := by decide +kernel
theorem dX2_choose_47 : decode cX2_choose 47 = .ok (.iaload, 1) := by decide +kernel
theorem dX2_choose_48 : decode cX2_choose 48 = .ok (.istore 4, 2) := by decide +kernel
theorem dX2_choose_50 : decode cX2_choose 50 = .ok (.iconst 0, 1) := by decide +kernel
theorem dX2_choose_51 : decode cX2_choose 51 = .ok (.istore 5, 2) := by decide +kernel
theorem dX2_choose_53 : decode cX2_choose 53 = .ok (.iload 5, 2) := by decide +kernel
theorem dX2_choose_55 : decode cX2_choose 55 = .ok (.bipush 20, 2) := by decide +kernel
theorem dX2_choose_57 : decode cX2_choose 57 = .ok (.if_icmp .ge 56, 3) := by decide +kernel
theorem dX2_choose_60 : decode cX2_choose 60 = .ok (.iload 4, 2) := by decide +kernel
theorem dX2_choose_62 : decode cX2_choose 62 = .ok (.iload 5, 2) := by decide +kernel
theorem dX2_choose_64 : decode cX2_choose 64 = .ok (.ishr, 1) := by decide +kernel
theorem dX2_choose_65 : decode cX2_choose 65 = .ok (.iconst 1, 1) := by decide +kernel
theorem dX2_choose_66 : decode cX2_choose 66 = .ok (.iand, 1) := by decide +kernel
theorem dX2_choose_67 : decode cX2_choose 67 = .ok (.ifCond .eq 40, 3) := by decide +kernel
theorem dX2_choose_70 : decode cX2_choose 70 = .ok (.aload_n 0, 1) := by decide +kernel
theorem dX2_choose_71 : decode cX2_choose 71 = .ok (.getfield 34, 3) := by decide +kernel
theorem dX2_choose_74 : decode cX2_choose 74 = .ok (.iload_n 2, 1) := by decide +kernel
theorem dX2_choose_75 : decode cX2_choose 75 = .ok (.iload 5, 2) := by decide +kernel
theorem dX2_choose_77 : decode cX2_choose 77 = .ok (.iastore, 1) := by decide +kernel
theorem dX2_choose_78 : decode cX2_choose 78 = .ok (.aload_n 0, 1) := by decide +kernel
theorem dX2_choose_79 : decode cX2_choose 79 = .ok (.aload_n 1, 1) := by decide +kernel
theorem dX2_choose_80 : decode cX2_choose 80 = .ok (.iload_n 2, 1) := by decide +kernel
theorem dX2_choose_81 : decode cX2_choose 81 = .ok (.iload 5, 2) := by decide +kernel
theorem dX2_choose_83 : decode cX2_choose 83 = .ok (.invokevirtual 122, 3) := by decide +kernel
theorem dX2_choose_86 : decode cX2_choose 86 = .ok (.aload_n 0, 1) := by decide +kernel
theorem dX2_choose_87 : decode cX2_choose 87 = .ok (.aload_n 1, 1) := by decide +kernel
theorem dX2_choose_88 : decode cX2_choose 88 = .ok (.iload_n 2, 1) := by decide +kernel
theorem dX2_choose_89 : decode cX2_choose 89 = .ok (.iconst 1, 1) := by decide +kernel
theorem dX2_choose_90 : decode cX2_choose 90 = .ok (.iadd, 1) := by decide +kernel
theorem dX2_choose_91 : decode cX2_choose 91 = .ok (.iload_n 3, 1) := by decide +kernel
theorem dX2_choose_92 : decode cX2_choose 92 = .ok (.iload 5, 2) := by decide +kernel
theorem dX2_choose_94 : decode cX2_choose 94 = .ok (.iconst 4, 1) := by decide +kernel
theorem dX2_choose_95 : decode cX2_choose 95 = .ok (.if_icmp .ge 7, 3) := by decide +kernel
theorem dX2_choose_98 : decode cX2_choose 98 = .ok (.iconst 1, 1) := by decide +kernel
theorem dX2_choose_99 : decode cX2_choose 99 = .ok (.goto 4, 3) := by decide +kernel
theorem dX2_choose_102 : decode cX2_choose 102 = .ok (.iconst 2, 1) := by decide +kernel
theorem dX2_choose_103 : decode cX2_choose 103 = .ok (.iadd, 1) := by decide +kernel
theorem dX2_choose_104 : decode cX2_choose 104 = .ok (.invokestatic 64, 3) := by decide +kernel
theorem dX2_choose_107 : decode cX2_choose 107 = .ok (.iinc 5 1, 3) := by decide +kernel
theorem dX2_choose_110 : decode cX2_choose 110 = .ok (.goto (-57), 3) := by decide +kernel
theorem dX2_choose_113 : decode cX2_choose 113 = .ok (.return_, 1) := by decide +kernel
theorem dX2_keepBest_0 : decode cX2_keepBest 0 = .ok (.iload_n 1, 1) := by decide +kernel
theorem dX2_keepBest_1 : decode cX2_keepBest 1 = .ok (.aload_n 0, 1) := by decide +kernel
theorem dX2_keepBest_2 : decode cX2_keepBest 2 = .ok (.getfield 61, 3) := by decide +kernel
theorem dX2_keepBest_5 : decode cX2_keepBest 5 = .ok (.if_icmp .ge 22, 3) := by decide +kernel
theorem dX2_keepBest_8 : decode cX2_keepBest 8 = .ok (.aload_n 0, 1) := by decide +kernel
theorem dX2_keepBest_9 : decode cX2_keepBest 9 = .ok (.iload_n 1, 1) := by decide +kernel
theorem dX2_keepBest_10 : decode cX2_keepBest 10 = .ok (.putfield 61, 3) := by decide +kernel
theorem dX2_keepBest_13 : decode cX2_keepBest 13 = .ok (.aload_n 0, 1) := by decide +kernel
theorem dX2_keepBest_14 : decode cX2_keepBest 14 = .ok (.getfield 34, 3) := by decide +kernel
theorem dX2_keepBest_17 : decode cX2_keepBest 17 = .ok (.iconst 0, 1) := by decide +kernel
theorem dX2_keepBest_18 : decode cX2_keepBest 18 = .ok (.aload_n 0, 1) := by decide +kernel
theorem dX2_keepBest_19 : decode cX2_keepBest 19 = .ok (.getfield 37, 3) := by decide +kernel
theorem dX2_keepBest_22 : decode cX2_keepBest 22 = .ok (.iconst 0, 1) := by decide +kernel
theorem dX2_keepBest_23 : decode cX2_keepBest 23 = .ok (.iconst 5, 1) := by decide +kernel
theorem dX2_keepBest_24 : decode cX2_keepBest 24 = .ok (.invokestatic 102, 3) := by decide +kernel
theorem dX2_keepBest_27 : decode cX2_keepBest 27 = .ok (.return_, 1) := by decide +kernel
theorem dX2_leastNotesFrom_0 : decode cX2_leastNotesFrom 0 = .ok (.iconst 0, 1) := by decide +kernel
theorem dX2_leastNotesFrom_1 : decode cX2_leastNotesFrom 1 = .ok (.istore_n 3, 1) := by decide +kernel
theorem dX2_leastNotesFrom_2 : decode cX2_leastNotesFrom 2 = .ok (.iload_n 2, 1) := by decide +kernel
theorem dX2_leastNotesFrom_3 : decode cX2_leastNotesFrom 3 = .ok (.istore 4, 2) := by decide +kernel
theorem dX2_leastNotesFrom_5 : decode cX2_leastNotesFrom 5 = .ok (.iload 4, 2) := by decide +kernel
theorem dX2_leastNotesFrom_7 : decode cX2_leastNotesFrom 7 = .ok (.iload_n 1, 1) := by decide +kernel
theorem dX2_leastNotesFrom_8 : decode cX2_leastNotesFrom 8 = .ok (.if_icmp .ge 46, 3) := by decide +kernel
theorem dX2_leastNotesFrom_11 : decode cX2_leastNotesFrom 11 = .ok (.aload_n 0, 1) := by decide +kernel
theorem dX2_leastNotesFrom_12 : decode cX2_leastNotesFrom 12 = .ok (.getfield 31, 3) := by decide +kernel
theorem dX2_leastNotesFrom_15 : decode cX2_leastNotesFrom 15 = .ok (.iload_n 2, 1) := by decide +kernel
theorem dX2_leastNotesFrom_16 : decode cX2_leastNotesFrom 16 = .ok (.iconst 5, 1) := by decide +kernel
theorem dX2_leastNotesFrom_17 : decode cX2_leastNotesFrom 17 = .ok (.imul, 1) := by decide +kernel
theorem dX2_leastNotesFrom_18 : decode cX2_leastNotesFrom 18 = .ok (.iload 4, 2) := by decide +kernel
theorem dX2_leastNotesFrom_20 : decode cX2_leastNotesFrom 20 = .ok (.iadd, 1) := by decide +kernel
theorem dX2_leastNotesFrom_21 : decode cX2_leastNotesFrom 21 = .ok (.iaload, 1) := by decide +kernel
theorem dX2_leastNotesFrom_22 : decode cX2_leastNotesFrom 22 = .ok (.istore 5, 2) := by decide +kernel
theorem dX2_leastNotesFrom_24 : decode cX2_leastNotesFrom 24 = .ok (.iload 5, 2) := by decide +kernel
theorem dX2_leastNotesFrom_26 : decode cX2_leastNotesFrom 26 = .ok (.ifCond .ne 6, 3) := by decide +kernel
theorem dX2_leastNotesFrom_29 : decode cX2_leastNotesFrom 29 = .ok (.bipush 11, 2) := by decide +kernel
theorem dX2_leastNotesFrom_31 : decode cX2_leastNotesFrom 31 = .ok (.ireturn, 1) := by decide +kernel
theorem dX2_leastNotesFrom_32 : decode cX2_leastNotesFrom 32 = .ok (.iload_n 3, 1) := by decide +kernel
theorem dX2_leastNotesFrom_33 : decode cX2_leastNotesFrom 33 = .ok (.iload 5, 2) := by decide +kernel
theorem dX2_leastNotesFrom_35 : decode cX2_leastNotesFrom 35 = .ok (.bipush 15, 2) := by decide +kernel
theorem dX2_leastNotesFrom_37 : decode cX2_leastNotesFrom 37 = .ok (.iand, 1) := by decide +kernel
theorem dX2_leastNotesFrom_38 : decode cX2_leastNotesFrom 38 = .ok (.ifCond .eq 7, 3) := by decide +kernel
theorem dX2_leastNotesFrom_41 : decode cX2_leastNotesFrom 41 = .ok (.iconst 1, 1) := by decide +kernel
theorem dX2_leastNotesFrom_42 : decode cX2_leastNotesFrom 42 = .ok (.goto 4, 3) := by decide +kernel
theorem dX2_leastNotesFrom_45 : decode cX2_leastNotesFrom 45 = .ok (.iconst 2, 1) := by decide +kernel
theorem dX2_leastNotesFrom_46 : decode cX2_leastNotesFrom 46 = .ok (.iadd, 1) := by decide +kernel
theorem dX2_leastNotesFrom_47 : decode cX2_leastNotesFrom 47 = .ok (.istore_n 3, 1) := by decide +kernel
theorem dX2_leastNotesFrom_48 : decode cX2_leastNotesFrom 48 = .ok (.iinc 4 1, 3) := by decide +kernel
theorem dX2_leastNotesFrom_51 : decode cX2_leastNotesFrom 51 = .ok (.goto (-46), 3) := by decide +kernel
theorem dX2_leastNotesFrom_54 : decode cX2_leastNotesFrom 54 = .ok (.iload_n 3, 1) := by decide +kernel
theorem dX2_leastNotesFrom_55 : decode cX2_leastNotesFrom 55 = .ok (.ireturn, 1) := by decide +kernel
set_option maxRecDepth 20000 in
theorem ggX2_narrow_X2_rowsGoingWith : GoodIn wsX2_narrow wsX2_rowsGoingWith := goodIn_r _ [7, 8, 9, 10, 11, 12, 13, 14, 15, 6, 16, 17, 18, 19, 31, 32, 33, 34, 35, 36, 37, 38, 39, 40, 20, 21, 22, 23, 24, 25, 26, 27, 28, 29, 30] (by decide +kernel) (by decide +kernel)
set_option maxRecDepth 20000 in
theorem gX2_narrow_X2_rowsGoingWith : GoodIn wsX2_narrow (wsV RX2 68 RX2 yX2_rowsGoingWith wsX2_rowsGoingWith) := goodIn_app (goodIn_of _ (by decide +kernel)) ggX2_narrow_X2_rowsGoingWith
theorem dX2_narrow_0 : decode cX2_narrow 0 = .ok (.iload_n 2, 1) := by decide +kernel
theorem dX2_narrow_1 : decode cX2_narrow 1 = .ok (.iconst 1, 1) := by decide +kernel
theorem dX2_narrow_2 : decode cX2_narrow 2 = .ok (.iadd, 1) := by decide +kernel
theorem dX2_narrow_3 : decode cX2_narrow 3 = .ok (.istore 4, 2) := by decide +kernel
theorem dX2_narrow_5 : decode cX2_narrow 5 = .ok (.iload 4, 2) := by decide +kernel
theorem dX2_narrow_7 : decode cX2_narrow 7 = .ok (.aload_n 1, 1) := by decide +kernel
theorem dX2_narrow_8 : decode cX2_narrow 8 = .ok (.getfield 40, 3) := by decide +kernel
theorem dX2_narrow_11 : decode cX2_narrow 11 = .ok (.if_icmp .ge 47, 3) := by decide +kernel
theorem dX2_narrow_14 : decode cX2_narrow 14 = .ok (.aload_n 0, 1) := by decide +kernel
theorem dX2_narrow_15 : decode cX2_narrow 15 = .ok (.getfield 31, 3) := by decide +kernel
theorem dX2_narrow_18 : decode cX2_narrow 18 = .ok (.iload_n 2, 1) := by decide +kernel
theorem dX2_narrow_19 : decode cX2_narrow 19 = .ok (.iconst 5, 1) := by decide +kernel
theorem dX2_narrow_20 : decode cX2_narrow 20 = .ok (.imul, 1) := by decide +kernel
theorem dX2_narrow_21 : decode cX2_narrow 21 = .ok (.iload 4, 2) := by decide +kernel
theorem dX2_narrow_23 : decode cX2_narrow 23 = .ok (.iadd, 1) := by decide +kernel
theorem dX2_narrow_24 : decode cX2_narrow 24 = .ok (.iaload, 1) := by decide +kernel
theorem dX2_narrow_25 : decode cX2_narrow 25 = .ok (.aload_n 0, 1) := by decide +kernel
theorem dX2_narrow_26 : decode cX2_narrow 26 = .ok (.aload_n 1, 1) := by decide +kernel
theorem dX2_narrow_27 : decode cX2_narrow 27 = .ok (.iload_n 2, 1) := by decide +kernel
theorem dX2_narrow_28 : decode cX2_narrow 28 = .ok (.iload_n 3, 1) := by decide +kernel
theorem dX2_narrow_29 : decode cX2_narrow 29 = .ok (.iload 4, 2) := by decide +kernel
theorem dX2_narrow_31 : decode cX2_narrow 31 = .ok (.invokevirtual 68, 3) := by decide +kernel
theorem dX2_narrow_34 : decode cX2_narrow 34 = .ok (.iand, 1) := by decide +kernel
theorem dX2_narrow_35 : decode cX2_narrow 35 = .ok (.istore 5, 2) := by decide +kernel
theorem dX2_narrow_37 : decode cX2_narrow 37 = .ok (.aload_n 0, 1) := by decide +kernel
theorem dX2_narrow_38 : decode cX2_narrow 38 = .ok (.getfield 31, 3) := by decide +kernel
theorem dX2_narrow_41 : decode cX2_narrow 41 = .ok (.iload_n 2, 1) := by decide +kernel
theorem dX2_narrow_42 : decode cX2_narrow 42 = .ok (.iconst 1, 1) := by decide +kernel
theorem dX2_narrow_43 : decode cX2_narrow 43 = .ok (.iadd, 1) := by decide +kernel
theorem dX2_narrow_44 : decode cX2_narrow 44 = .ok (.iconst 5, 1) := by decide +kernel
theorem dX2_narrow_45 : decode cX2_narrow 45 = .ok (.imul, 1) := by decide +kernel
theorem dX2_narrow_46 : decode cX2_narrow 46 = .ok (.iload 4, 2) := by decide +kernel
theorem dX2_narrow_48 : decode cX2_narrow 48 = .ok (.iadd, 1) := by decide +kernel
theorem dX2_narrow_49 : decode cX2_narrow 49 = .ok (.iload 5, 2) := by decide +kernel
theorem dX2_narrow_51 : decode cX2_narrow 51 = .ok (.iastore, 1) := by decide +kernel
theorem dX2_narrow_52 : decode cX2_narrow 52 = .ok (.iinc 4 1, 3) := by decide +kernel
theorem dX2_narrow_55 : decode cX2_narrow 55 = .ok (.goto (-50), 3) := by decide +kernel
theorem dX2_narrow_58 : decode cX2_narrow 58 = .ok (.return_, 1) := by decide +kernel
theorem dX3_init_0 : decode cX3_init 0 = .ok (.aload_n 0, 1) := by decide +kernel
theorem dX3_init_1 : decode cX3_init 1 = .ok (.invokespecial 3, 3) := by decide +kernel
theorem dX3_init_4 : decode cX3_init 4 = .ok (.aload_n 0, 1) := by decide +kernel
theorem dX3_init_5 : decode cX3_init 5 = .ok (.sipush 200, 3) := by decide +kernel
theorem dX3_init_8 : decode cX3_init 8 = .ok (.newarray .int, 2) := by decide +kernel
theorem dX3_init_10 : decode cX3_init 10 = .ok (.putfield 9, 3) := by decide +kernel
theorem dX3_init_13 : decode cX3_init 13 = .ok (.aload_n 0, 1) := by decide +kernel
theorem dX3_init_14 : decode cX3_init 14 = .ok (.iconst 4, 1) := by decide +kernel
theorem dX3_init_15 : decode cX3_init 15 = .ok (.newarray .int, 2) := by decide +kernel
theorem dX3_init_17 : decode cX3_init 17 = .ok (.putfield 15, 3) := by decide +kernel
theorem dX3_init_20 : decode cX3_init 20 = .ok (.return_, 1) := by decide +kernel
theorem dX3_add_0 : decode cX3_add 0 = .ok (.aload_n 0, 1) := by decide +kernel
theorem dX3_add_1 : decode cX3_add 1 = .ok (.getfield 18, 3) := by decide +kernel
theorem dX3_add_4 : decode cX3_add 4 = .ok (.iload_n 3, 1) := by decide +kernel
theorem dX3_add_5 : decode cX3_add 5 = .ok (.iadd, 1) := by decide +kernel
theorem dX3_add_6 : decode cX3_add 6 = .ok (.sipush 200, 3) := by decide +kernel
theorem dX3_add_9 : decode cX3_add 9 = .ok (.if_icmp .le 6, 3) := by decide +kernel
theorem dX3_add_12 : decode cX3_add 12 = .ok (.bipush (-4), 2) := by decide +kernel
theorem dX3_add_14 : decode cX3_add 14 = .ok (.ireturn, 1) := by decide +kernel
theorem dX3_add_15 : decode cX3_add 15 = .ok (.iload_n 3, 1) := by decide +kernel
theorem dX3_add_16 : decode cX3_add 16 = .ok (.iconst 1, 1) := by decide +kernel
theorem dX3_add_17 : decode cX3_add 17 = .ok (.isub, 1) := by decide +kernel
theorem dX3_add_18 : decode cX3_add 18 = .ok (.istore 4, 2) := by decide +kernel
theorem dX3_add_20 : decode cX3_add 20 = .ok (.iload 4, 2) := by decide +kernel
theorem dX3_add_22 : decode cX3_add 22 = .ok (.ifCond .lt 40, 3) := by decide +kernel
theorem dX3_add_25 : decode cX3_add 25 = .ok (.aload_n 0, 1) := by decide +kernel
theorem dX3_add_26 : decode cX3_add 26 = .ok (.getfield 9, 3) := by decide +kernel
theorem dX3_add_29 : decode cX3_add 29 = .ok (.aload_n 0, 1) := by decide +kernel
theorem dX3_add_30 : decode cX3_add 30 = .ok (.getfield 18, 3) := by decide +kernel
theorem dX3_add_33 : decode cX3_add 33 = .ok (.lload_n 1, 1) := by decide +kernel
theorem dX3_add_34 : decode cX3_add 34 = .ok (.bipush 8, 2) := by decide +kernel
theorem dX3_add_36 : decode cX3_add 36 = .ok (.iload 4, 2) := by decide +kernel
theorem dX3_add_38 : decode cX3_add 38 = .ok (.imul, 1) := by decide +kernel
theorem dX3_add_39 : decode cX3_add 39 = .ok (.lshr, 1) := by decide +kernel
theorem dX3_add_40 : decode cX3_add 40 = .ok (.l2i, 1) := by decide +kernel
theorem dX3_add_41 : decode cX3_add 41 = .ok (.sipush 255, 3) := by decide +kernel
theorem dX3_add_44 : decode cX3_add 44 = .ok (.iand, 1) := by decide +kernel
theorem dX3_add_45 : decode cX3_add 45 = .ok (.iastore, 1) := by decide +kernel
theorem dX3_add_46 : decode cX3_add 46 = .ok (.aload_n 0, 1) := by decide +kernel
theorem dX3_add_47 : decode cX3_add 47 = .ok (.dup, 1) := by decide +kernel
theorem dX3_add_48 : decode cX3_add 48 = .ok (.getfield 18, 3) := by decide +kernel
theorem dX3_add_51 : decode cX3_add 51 = .ok (.iconst 1, 1) := by decide +kernel
theorem dX3_add_52 : decode cX3_add 52 = .ok (.iadd, 1) := by decide +kernel
theorem dX3_add_53 : decode cX3_add 53 = .ok (.putfield 18, 3) := by decide +kernel
theorem dX3_add_56 : decode cX3_add 56 = .ok (.iinc 4 (-1), 3) := by decide +kernel
theorem dX3_add_59 : decode cX3_add 59 = .ok (.goto (-39), 3) := by decide +kernel
theorem dX3_add_62 : decode cX3_add 62 = .ok (.aload_n 0, 1) := by decide +kernel
theorem dX3_add_63 : decode cX3_add 63 = .ok (.getfield 18, 3) := by decide +kernel
theorem dX3_add_66 : decode cX3_add 66 = .ok (.ireturn, 1) := by decide +kernel
set_option maxRecDepth 20000 in
theorem ggX3_tellInto_X0_empty : GoodIn wsX3_tellInto wsX0_empty := goodIn_r _ [11, 12, 13, 14, 15, 143, 144, 145, 146, 147, 148, 149, 150, 151, 152, 153] (by decide +kernel) (by decide +kernel)
set_option maxRecDepth 20000 in
theorem gX3_tellInto_X0_empty : GoodIn wsX3_tellInto (wsV RX3 22 RX0 yX0_empty wsX0_empty) := goodIn_app (goodIn_of _ (by decide +kernel)) ggX3_tellInto_X0_empty
set_option maxRecDepth 20000 in
theorem ggX3_tellInto_X3_nextToken : GoodIn wsX3_tellInto wsX3_nextToken := goodIn_r _ [20, 1, 5, 21, 4, 22, 23, 24, 25, 19, 26, 27, 28, 29, 30, 31, 32, 33, 6, 34, 35, 36, 37, 38, 39, 40, 41, 42, 43, 44, 45, 46, 47, 48, 49, 50, 51, 52, 53, 54, 55, 56, 57, 58, 59, 60, 61, 62, 63, 64, 65, 66, 67, 68, 69, 70, 71, 72, 73, 74, 75, 76, 77, 78, 79, 80, 81, 82, 83, 84, 85, 86, 87, 88, 89, 90, 91, 92, 93, 134, 135, 136, 137, 138, 139, 140, 141, 142] (by decide +kernel) (by decide +kernel)
set_option maxRecDepth 20000 in
theorem gX3_tellInto_X3_nextToken : GoodIn wsX3_tellInto (wsV RX3 36 RX3 yX3_nextToken wsX3_nextToken) := goodIn_app (goodIn_of _ (by decide +kernel)) ggX3_tellInto_X3_nextToken
set_option maxRecDepth 20000 in
theorem ggX3_tellInto_X3_isRestOfItem : GoodIn wsX3_tellInto wsX3_isRestOfItem := goodIn_r _ [97, 4, 98, 6, 99, 100, 19, 101, 16, 17, 18, 20, 1, 5, 21, 22, 23, 24, 25, 26, 27, 28, 29, 30, 31, 32, 33, 34, 35, 36, 37, 38, 39, 40, 41, 42, 43, 44, 45, 46, 47, 48, 49, 50, 51, 52, 53, 54, 55, 56, 57, 58, 59, 60, 61, 62, 63, 64, 65, 66, 67, 68, 69, 70, 71, 72, 73, 74, 75, 76, 77, 78, 79, 80, 81, 82, 83, 84, 85, 86, 87, 88, 89, 90, 91, 92, 93, 134, 135, 136, 137, 138, 139, 140, 141, 142] (by decide +kernel) (by decide +kernel)
set_option maxRecDepth 20000 in
theorem gX3_tellInto_X3_isRestOfItem : GoodIn wsX3_tellInto (wsV RX3 48 RX3 yX3_isRestOfItem wsX3_isRestOfItem) := goodIn_app (goodIn_of _ (by decide +kernel)) ggX3_tellInto_X3_isRestOfItem
set_option maxRecDepth 20000 in
theorem ggX3_tellInto_X3_tellItem : GoodIn wsX3_tellInto wsX3_tellItem := goodIn_r _ [105, 98, 106, 107, 108, 10, 109, 15, 110, 111, 112, 113, 114, 115, 116, 12, 117, 118, 119, 120, 121, 122, 123, 124, 125, 126, 127, 128, 129, 130, 131, 13, 132, 133, 134, 135, 136, 137, 138, 139, 140, 141, 142, 143, 144, 145, 146, 147, 148, 149, 150, 151, 152, 153] (by decide +kernel) (by decide +kernel)
set_option maxRecDepth 20000 in
theorem gX3_tellInto_X3_tellItem : GoodIn wsX3_tellInto (wsV RX3 52 RX3 yX3_tellItem wsX3_tellItem) := goodIn_app (goodIn_of _ (by decide +kernel)) ggX3_tellInto_X3_tellItem
theorem dX3_tellInto_0 : decode cX3_tellInto 0 = .ok (.aload_n 1, 1) := by decide +kernel
theorem dX3_tellInto_1 : decode cX3_tellInto 1 = .ok (.invokevirtual 22, 3) := by decide +kernel
theorem dX3_tellInto_4 : decode cX3_tellInto 4 = .ok (.aload_n 0, 1) := by decide +kernel
theorem dX3_tellInto_5 : decode cX3_tellInto 5 = .ok (.iconst 0, 1) := by decide +kernel
theorem dX3_tellInto_6 : decode cX3_tellInto 6 = .ok (.putfield 27, 3) := by decide +kernel
theorem dX3_tellInto_9 : decode cX3_tellInto 9 = .ok (.aload_n 0, 1) := by decide +kernel
theorem dX3_tellInto_10 : decode cX3_tellInto 10 = .ok (.iconst 0, 1) := by decide +kernel
theorem dX3_tellInto_11 : decode cX3_tellInto 11 = .ok (.putfield 30, 3) := by decide +kernel
theorem dX3_tellInto_14 : decode cX3_tellInto 14 = .ok (.aload_n 0, 1) := by decide +kernel
theorem dX3_tellInto_15 : decode cX3_tellInto 15 = .ok (.iconst (-1), 1) := by decide +kernel
theorem dX3_tellInto_16 : decode cX3_tellInto 16 = .ok (.putfield 33, 3) := by decide +kernel
theorem dX3_tellInto_19 : decode cX3_tellInto 19 = .ok (.iconst 0, 1) := by decide +kernel
theorem dX3_tellInto_20 : decode cX3_tellInto 20 = .ok (.istore_n 2, 1) := by decide +kernel
theorem dX3_tellInto_21 : decode cX3_tellInto 21 = .ok (.iload_n 2, 1) := by decide +kernel
theorem dX3_tellInto_22 : decode cX3_tellInto 22 = .ok (.sipush 200, 3) := by decide +kernel
theorem dX3_tellInto_25 : decode cX3_tellInto 25 = .ok (.if_icmp .gt 90, 3) := by decide +kernel
theorem dX3_tellInto_28 : decode cX3_tellInto 28 = .ok (.aload_n 0, 1) := by decide +kernel
theorem dX3_tellInto_29 : decode cX3_tellInto 29 = .ok (.invokevirtual 36, 3) := by decide +kernel
theorem dX3_tellInto_32 : decode cX3_tellInto 32 = .ok (.aload_n 0, 1) := by decide +kernel
theorem dX3_tellInto_33 : decode cX3_tellInto 33 = .ok (.getfield 39, 3) := by decide +kernel
theorem dX3_tellInto_36 : decode cX3_tellInto 36 = .ok (.ifCond .ne 5, 3) := by decide +kernel
theorem dX3_tellInto_39 : decode cX3_tellInto 39 = .ok (.iconst (-1), 1) := by decide +kernel
theorem dX3_tellInto_40 : decode cX3_tellInto 40 = .ok (.ireturn, 1) := by decide +kernel
theorem dX3_tellInto_41 : decode cX3_tellInto 41 = .ok (.aload_n 0, 1) := by decide +kernel
theorem dX3_tellInto_42 : decode cX3_tellInto 42 = .ok (.getfield 39, 3) := by decide +kernel
theorem dX3_tellInto_45 : decode cX3_tellInto 45 = .ok (.iconst 1, 1) := by decide +kernel
theorem dX3_tellInto_46 : decode cX3_tellInto 46 = .ok (.if_icmp .eq 8, 3) := by decide +kernel
theorem dX3_tellInto_49 : decode cX3_tellInto 49 = .ok (.aload_n 0, 1) := by decide +kernel
theorem dX3_tellInto_50 : decode cX3_tellInto 50 = .ok (.getfield 42, 3) := by decide +kernel
theorem dX3_tellInto_53 : decode cX3_tellInto 53 = .ok (.ireturn, 1) := by decide +kernel
theorem dX3_tellInto_54 : decode cX3_tellInto 54 = .ok (.aload_n 0, 1) := by decide +kernel
theorem dX3_tellInto_55 : decode cX3_tellInto 55 = .ok (.getfield 45, 3) := by decide +kernel
theorem dX3_tellInto_58 : decode cX3_tellInto 58 = .ok (.istore_n 3, 1) := by decide +kernel
theorem dX3_tellInto_59 : decode cX3_tellInto 59 = .ok (.aload_n 0, 1) := by decide +kernel
theorem dX3_tellInto_60 : decode cX3_tellInto 60 = .ok (.iload_n 3, 1) := by decide +kernel
theorem dX3_tellInto_61 : decode cX3_tellInto 61 = .ok (.invokevirtual 48, 3) := by decide +kernel
theorem dX3_tellInto_64 : decode cX3_tellInto 64 = .ok (.ifCond .ne 8, 3) := by decide +kernel
theorem dX3_tellInto_67 : decode cX3_tellInto 67 = .ok (.aload_n 0, 1) := by decide +kernel
theorem dX3_tellInto_68 : decode cX3_tellInto 68 = .ok (.getfield 42, 3) := by decide +kernel
theorem dX3_tellInto_71 : decode cX3_tellInto 71 = .ok (.ireturn, 1) := by decide +kernel
theorem dX3_tellInto_72 : decode cX3_tellInto 72 = .ok (.aload_n 0, 1) := by decide +kernel
theorem dX3_tellInto_73 : decode cX3_tellInto 73 = .ok (.getfield 33, 3) := by decide +kernel
theorem dX3_tellInto_76 : decode cX3_tellInto 76 = .ok (.iconst (-1), 1) := by decide +kernel
theorem dX3_tellInto_77 : decode cX3_tellInto 77 = .ok (.if_icmp .ne 22, 3) := by decide +kernel
theorem dX3_tellInto_80 : decode cX3_tellInto 80 = .ok (.aload_n 0, 1) := by decide +kernel
theorem dX3_tellInto_81 : decode cX3_tellInto 81 = .ok (.aload_n 1, 1) := by decide +kernel
theorem dX3_tellInto_82 : decode cX3_tellInto 82 = .ok (.iload_n 3, 1) := by decide +kernel
theorem dX3_tellInto_83 : decode cX3_tellInto 83 = .ok (.invokevirtual 52, 3) := by decide +kernel
theorem dX3_tellInto_86 : decode cX3_tellInto 86 = .ok (.bipush (-2), 2) := by decide +kernel
theorem dX3_tellInto_88 : decode cX3_tellInto 88 = .ok (.if_icmp .gt 11, 3) := by decide +kernel
theorem dX3_tellInto_91 : decode cX3_tellInto 91 = .ok (.aload_n 0, 1) := by decide +kernel
theorem dX3_tellInto_92 : decode cX3_tellInto 92 = .ok (.aload_n 0, 1) := by decide +kernel
theorem dX3_tellInto_93 : decode cX3_tellInto 93 = .ok (.getfield 30, 3) := by decide +kernel
theorem dX3_tellInto_96 : decode cX3_tellInto 96 = .ok (.putfield 33, 3) := by decide +kernel
theorem dX3_tellInto_99 : decode cX3_tellInto 99 = .ok (.aload_n 0, 1) := by decide +kernel
theorem dX3_tellInto_100 : decode cX3_tellInto 100 = .ok (.dup, 1) := by decide +kernel
theorem dX3_tellInto_101 : decode cX3_tellInto 101 = .ok (.getfield 30, 3) := by decide +kernel
theorem dX3_tellInto_104 : decode cX3_tellInto 104 = .ok (.iconst 1, 1) := by decide +kernel
theorem dX3_tellInto_105 : decode cX3_tellInto 105 = .ok (.iadd, 1) := by decide +kernel
theorem dX3_tellInto_106 : decode cX3_tellInto 106 = .ok (.putfield 30, 3) := by decide +kernel
theorem dX3_tellInto_109 : decode cX3_tellInto 109 = .ok (.iinc 2 1, 3) := by decide +kernel
theorem dX3_tellInto_112 : decode cX3_tellInto 112 = .ok (.goto (-91), 3) := by decide +kernel
theorem dX3_tellInto_115 : decode cX3_tellInto 115 = .ok (.iconst (-1), 1) := by decide +kernel
theorem dX3_tellInto_116 : decode cX3_tellInto 116 = .ok (.ireturn, 1) := by decide +kernel
set_option maxRecDepth 20000 in
theorem ggX3_isRestOfItem_X3_numbersOf : GoodIn wsX3_isRestOfItem wsX3_numbersOf := goodIn_r _ [7] (by decide +kernel) (by decide +kernel)
set_option maxRecDepth 20000 in
theorem gX3_isRestOfItem_X3_numbersOf : GoodIn wsX3_isRestOfItem (va_wsS RX3 56 yX3_numbersOf wsX3_numbersOf) := goodIn_app (goodIn_of _ (by decide +kernel)) ggX3_isRestOfItem_X3_numbersOf
set_option maxRecDepth 20000 in
theorem ggX3_isRestOfItem_X3_nextToken : GoodIn wsX3_isRestOfItem wsX3_nextToken := goodIn_r _ [11, 12, 13, 14, 1, 15, 16, 17, 18, 6, 19, 20, 21, 22, 23, 24, 25, 26, 3, 27, 28, 29, 30, 31, 32, 33, 34, 35, 36, 37, 38, 39, 40, 41, 42, 43, 44, 45, 46, 47, 48, 49, 50, 51, 52, 53, 54, 55, 56, 57, 58, 59, 60, 61, 62, 63, 64, 65, 66, 67, 68, 69, 70, 71, 72, 73, 74, 75, 76, 77, 78, 79, 80, 81, 82, 83, 84, 85, 86, 87, 88, 89, 90, 91, 92, 93, 94, 95] (by decide +kernel) (by decide +kernel)
set_option maxRecDepth 20000 in
theorem gX3_isRestOfItem_X3_nextToken : GoodIn wsX3_isRestOfItem (wsV RX3 36 RX3 yX3_nextToken wsX3_nextToken) := goodIn_app (goodIn_of _ (by decide +kernel)) ggX3_isRestOfItem_X3_nextToken
theorem dX3_isRestOfItem_0 : decode cX3_isRestOfItem 0 = .ok (.iload_n 1, 1) := by decide +kernel
theorem dX3_isRestOfItem_1 : decode cX3_isRestOfItem 1 = .ok (.invokestatic 56, 3) := by decide +kernel
theorem dX3_isRestOfItem_4 : decode cX3_isRestOfItem 4 = .ok (.istore_n 2, 1) := by decide +kernel
theorem dX3_isRestOfItem_5 : decode cX3_isRestOfItem 5 = .ok (.iconst 0, 1) := by decide +kernel
theorem dX3_isRestOfItem_6 : decode cX3_isRestOfItem 6 = .ok (.istore_n 3, 1) := by decide +kernel
theorem dX3_isRestOfItem_7 : decode cX3_isRestOfItem 7 = .ok (.iload_n 3, 1) := by decide +kernel
theorem dX3_isRestOfItem_8 : decode cX3_isRestOfItem 8 = .ok (.iload_n 2, 1) := by decide +kernel
theorem dX3_isRestOfItem_9 : decode cX3_isRestOfItem 9 = .ok (.if_icmp .ge 33, 3) := by decide +kernel
theorem dX3_isRestOfItem_12 : decode cX3_isRestOfItem 12 = .ok (.aload_n 0, 1) := by decide +kernel
theorem dX3_isRestOfItem_13 : decode cX3_isRestOfItem 13 = .ok (.invokevirtual 36, 3) := by decide +kernel
theorem dX3_isRestOfItem_16 : decode cX3_isRestOfItem 16 = .ok (.aload_n 0, 1) := by decide +kernel
theorem dX3_isRestOfItem_17 : decode cX3_isRestOfItem 17 = .ok (.getfield 39, 3) := by decide +kernel
theorem dX3_isRestOfItem_20 : decode cX3_isRestOfItem 20 = .ok (.iconst 2, 1) := by decide +kernel
theorem dX3_isRestOfItem_21 : decode cX3_isRestOfItem 21 = .ok (.if_icmp .eq 5, 3) := by decide +kernel
theorem dX3_isRestOfItem_24 : decode cX3_isRestOfItem 24 = .ok (.iconst 0, 1) := by decide +kernel
theorem dX3_isRestOfItem_25 : decode cX3_isRestOfItem 25 = .ok (.ireturn, 1) := by decide +kernel
theorem dX3_isRestOfItem_26 : decode cX3_isRestOfItem 26 = .ok (.aload_n 0, 1) := by decide +kernel
theorem dX3_isRestOfItem_27 : decode cX3_isRestOfItem 27 = .ok (.getfield 15, 3) := by decide +kernel
theorem dX3_isRestOfItem_30 : decode cX3_isRestOfItem 30 = .ok (.iload_n 3, 1) := by decide +kernel
theorem dX3_isRestOfItem_31 : decode cX3_isRestOfItem 31 = .ok (.aload_n 0, 1) := by decide +kernel
theorem dX3_isRestOfItem_32 : decode cX3_isRestOfItem 32 = .ok (.getfield 45, 3) := by decide +kernel
theorem dX3_isRestOfItem_35 : decode cX3_isRestOfItem 35 = .ok (.iastore, 1) := by decide +kernel
theorem dX3_isRestOfItem_36 : decode cX3_isRestOfItem 36 = .ok (.iinc 3 1, 3) := by decide +kernel
theorem dX3_isRestOfItem_39 : decode cX3_isRestOfItem 39 = .ok (.goto (-32), 3) := by decide +kernel
theorem dX3_isRestOfItem_42 : decode cX3_isRestOfItem 42 = .ok (.aload_n 0, 1) := by decide +kernel
theorem dX3_isRestOfItem_43 : decode cX3_isRestOfItem 43 = .ok (.invokevirtual 36, 3) := by decide +kernel
theorem dX3_isRestOfItem_46 : decode cX3_isRestOfItem 46 = .ok (.aload_n 0, 1) := by decide +kernel
theorem dX3_isRestOfItem_47 : decode cX3_isRestOfItem 47 = .ok (.getfield 39, 3) := by decide +kernel
theorem dX3_isRestOfItem_50 : decode cX3_isRestOfItem 50 = .ok (.iconst 3, 1) := by decide +kernel
theorem dX3_isRestOfItem_51 : decode cX3_isRestOfItem 51 = .ok (.if_icmp .ne 7, 3) := by decide +kernel
theorem dX3_isRestOfItem_54 : decode cX3_isRestOfItem 54 = .ok (.iconst 1, 1) := by decide +kernel
theorem dX3_isRestOfItem_55 : decode cX3_isRestOfItem 55 = .ok (.goto 4, 3) := by decide +kernel
theorem dX3_isRestOfItem_58 : decode cX3_isRestOfItem 58 = .ok (.iconst 0, 1) := by decide +kernel
theorem dX3_isRestOfItem_59 : decode cX3_isRestOfItem 59 = .ok (.ireturn, 1) := by decide +kernel
theorem dX3_numbersOf_0 : decode cX3_numbersOf 0 = .ok (.iload_n 0, 1) := by decide +kernel
theorem dX3_numbersOf_1 : decode cX3_numbersOf 1 = .ok (.lookupswitch 31 #[(0, 27), (1, 29)], 27) := by decide +kernel
theorem dX3_numbersOf_28 : decode cX3_numbersOf 28 = .ok (.iconst 3, 1) := by decide +kernel
theorem dX3_numbersOf_29 : decode cX3_numbersOf 29 = .ok (.ireturn, 1) := by decide +kernel
theorem dX3_numbersOf_30 : decode cX3_numbersOf 30 = .ok (.iconst 4, 1) := by decide +kernel
theorem dX3_numbersOf_31 : decode cX3_numbersOf 31 = .ok (.ireturn, 1) := by decide +kernel
theorem dX3_numbersOf_32 : decode cX3_numbersOf 32 = .ok (.iconst 2, 1) := by decide +kernel
theorem dX3_numbersOf_33 : decode cX3_numbersOf 33 = .ok (.ireturn, 1) := by decide +kernel
set_option maxRecDepth 20000 in
theorem ggX3_tellItem_X0_tellWind : GoodIn wsX3_tellItem wsX0_tellWind := goodIn_r _ [6, 7, 8, 9, 10, 43, 44, 45, 46, 47, 48, 49, 50, 51, 52, 53] (by decide +kernel) (by decide +kernel)
set_option maxRecDepth 20000 in
theorem gX3_tellItem_X0_tellWind : GoodIn wsX3_tellItem (wsV RX3 60 RX0 yX0_tellWind wsX0_tellWind) := goodIn_app (goodIn_of _ (by decide +kernel)) ggX3_tellItem_X0_tellWind
set_option maxRecDepth 20000 in
theorem ggX3_tellItem_X0_tellPerson : GoodIn wsX3_tellItem wsX0_tellPerson := goodIn_r _ [14, 15, 16, 17, 18, 19, 8, 9, 10, 20, 21, 22, 23, 24, 25, 26, 43, 44, 45, 46, 47, 48, 49, 50, 51, 52, 53] (by decide +kernel) (by decide +kernel)
set_option maxRecDepth 20000 in
theorem gX3_tellItem_X0_tellPerson : GoodIn wsX3_tellItem (wsV RX3 64 RX0 yX0_tellPerson wsX0_tellPerson) := goodIn_app (goodIn_of _ (by decide +kernel)) ggX3_tellItem_X0_tellPerson
set_option maxRecDepth 20000 in
theorem ggX3_tellItem_X0_tellDead : GoodIn wsX3_tellItem wsX0_tellDead := goodIn_r _ [30, 31, 32, 33, 20, 21, 22, 23, 24, 25, 26, 8, 9, 10, 43, 44, 45, 46, 47, 48, 49, 50, 51, 52, 53] (by decide +kernel) (by decide +kernel)
set_option maxRecDepth 20000 in
theorem gX3_tellItem_X0_tellDead : GoodIn wsX3_tellItem (wsV RX3 68 RX0 yX0_tellDead wsX0_tellDead) := goodIn_app (goodIn_of _ (by decide +kernel)) ggX3_tellItem_X0_tellDead
theorem dX3_tellItem_0 : decode cX3_tellItem 0 = .ok (.iload_n 2, 1) := by decide +kernel
theorem dX3_tellItem_1 : decode cX3_tellItem 1 = .ok (.lookupswitch 79 #[(0, 27), (1, 50)], 27) := by decide +kernel
theorem dX3_tellItem_28 : decode cX3_tellItem 28 = .ok (.aload_n 1, 1) := by decide +kernel
theorem dX3_tellItem_29 : decode cX3_tellItem 29 = .ok (.aload_n 0, 1) := by decide +kernel
theorem dX3_tellItem_30 : decode cX3_tellItem 30 = .ok (.getfield 15, 3) := by decide +kernel
theorem dX3_tellItem_33 : decode cX3_tellItem 33 = .ok (.iconst 0, 1) := by decide +kernel
theorem dX3_tellItem_34 : decode cX3_tellItem 34 = .ok (.iaload, 1) := by decide +kernel
theorem dX3_tellItem_35 : decode cX3_tellItem 35 = .ok (.aload_n 0, 1) := by decide +kernel
theorem dX3_tellItem_36 : decode cX3_tellItem 36 = .ok (.getfield 15, 3) := by decide +kernel
theorem dX3_tellItem_39 : decode cX3_tellItem 39 = .ok (.iconst 1, 1) := by decide +kernel
theorem dX3_tellItem_40 : decode cX3_tellItem 40 = .ok (.iaload, 1) := by decide +kernel
theorem dX3_tellItem_41 : decode cX3_tellItem 41 = .ok (.aload_n 0, 1) := by decide +kernel
theorem dX3_tellItem_42 : decode cX3_tellItem 42 = .ok (.getfield 15, 3) := by decide +kernel
theorem dX3_tellItem_45 : decode cX3_tellItem 45 = .ok (.iconst 2, 1) := by decide +kernel
theorem dX3_tellItem_46 : decode cX3_tellItem 46 = .ok (.iaload, 1) := by decide +kernel
theorem dX3_tellItem_47 : decode cX3_tellItem 47 = .ok (.invokevirtual 60, 3) := by decide +kernel
theorem dX3_tellItem_50 : decode cX3_tellItem 50 = .ok (.ireturn, 1) := by decide +kernel
theorem dX3_tellItem_51 : decode cX3_tellItem 51 = .ok (.aload_n 1, 1) := by decide +kernel
theorem dX3_tellItem_52 : decode cX3_tellItem 52 = .ok (.aload_n 0, 1) := by decide +kernel
theorem dX3_tellItem_53 : decode cX3_tellItem 53 = .ok (.getfield 15, 3) := by decide +kernel
theorem dX3_tellItem_56 : decode cX3_tellItem 56 = .ok (.iconst 0, 1) := by decide +kernel
theorem dX3_tellItem_57 : decode cX3_tellItem 57 = .ok (.iaload, 1) := by decide +kernel
theorem dX3_tellItem_58 : decode cX3_tellItem 58 = .ok (.aload_n 0, 1) := by decide +kernel
theorem dX3_tellItem_59 : decode cX3_tellItem 59 = .ok (.getfield 15, 3) := by decide +kernel
theorem dX3_tellItem_62 : decode cX3_tellItem 62 = .ok (.iconst 1, 1) := by decide +kernel
theorem dX3_tellItem_63 : decode cX3_tellItem 63 = .ok (.iaload, 1) := by decide +kernel
theorem dX3_tellItem_64 : decode cX3_tellItem 64 = .ok (.aload_n 0, 1) := by decide +kernel
theorem dX3_tellItem_65 : decode cX3_tellItem 65 = .ok (.getfield 15, 3) := by decide +kernel
theorem dX3_tellItem_68 : decode cX3_tellItem 68 = .ok (.iconst 2, 1) := by decide +kernel
theorem dX3_tellItem_69 : decode cX3_tellItem 69 = .ok (.iaload, 1) := by decide +kernel
theorem dX3_tellItem_70 : decode cX3_tellItem 70 = .ok (.aload_n 0, 1) := by decide +kernel
theorem dX3_tellItem_71 : decode cX3_tellItem 71 = .ok (.getfield 15, 3) := by decide +kernel
theorem dX3_tellItem_74 : decode cX3_tellItem 74 = .ok (.iconst 3, 1) := by decide +kernel
theorem dX3_tellItem_75 : decode cX3_tellItem 75 = .ok (.iaload, 1) := by decide +kernel
theorem dX3_tellItem_76 : decode cX3_tellItem 76 = .ok (.invokevirtual 64, 3) := by decide +kernel
theorem dX3_tellItem_79 : decode cX3_tellItem 79 = .ok (.ireturn, 1) := by decide +kernel
theorem dX3_tellItem_80 : decode cX3_tellItem 80 = .ok (.aload_n 1, 1) := by decide +kernel
theorem dX3_tellItem_81 : decode cX3_tellItem 81 = .ok (.aload_n 0, 1) := by decide +kernel
theorem dX3_tellItem_82 : decode cX3_tellItem 82 = .ok (.getfield 15, 3) := by decide +kernel
theorem dX3_tellItem_85 : decode cX3_tellItem 85 = .ok (.iconst 0, 1) := by decide +kernel
theorem dX3_tellItem_86 : decode cX3_tellItem 86 = .ok (.iaload, 1) := by decide +kernel
theorem dX3_tellItem_87 : decode cX3_tellItem 87 = .ok (.aload_n 0, 1) := by decide +kernel
theorem dX3_tellItem_88 : decode cX3_tellItem 88 = .ok (.getfield 15, 3) := by decide +kernel
theorem dX3_tellItem_91 : decode cX3_tellItem 91 = .ok (.iconst 1, 1) := by decide +kernel
theorem dX3_tellItem_92 : decode cX3_tellItem 92 = .ok (.iaload, 1) := by decide +kernel
theorem dX3_tellItem_93 : decode cX3_tellItem 93 = .ok (.invokevirtual 68, 3) := by decide +kernel
theorem dX3_tellItem_96 : decode cX3_tellItem 96 = .ok (.ireturn, 1) := by decide +kernel
set_option maxRecDepth 20000 in
theorem ggX3_nextToken_X3_skipBlanks : GoodIn wsX3_nextToken wsX3_skipBlanks := goodIn_r _ [10, 1, 3, 5, 79, 80, 81, 82, 83, 84, 85, 86, 87] (by decide +kernel) (by decide +kernel)
set_option maxRecDepth 20000 in
theorem gX3_nextToken_X3_skipBlanks : GoodIn wsX3_nextToken (wsV RX3 72 RX3 yX3_skipBlanks wsX3_skipBlanks) := goodIn_app (goodIn_of _ (by decide +kernel)) ggX3_nextToken_X3_skipBlanks
set_option maxRecDepth 20000 in
theorem ggX3_nextToken_X3_isLetter : GoodIn wsX3_nextToken wsX3_isLetter := goodIn_r _ [13] (by decide +kernel) (by decide +kernel)
set_option maxRecDepth 20000 in
theorem gX3_nextToken_X3_isLetter : GoodIn wsX3_nextToken (va_wsS RX3 75 yX3_isLetter wsX3_isLetter) := goodIn_app (goodIn_of _ (by decide +kernel)) ggX3_nextToken_X3_isLetter
set_option maxRecDepth 20000 in
theorem ggX3_nextToken_X3_takeWord : GoodIn wsX3_nextToken wsX3_takeWord := goodIn_r _ [17, 1, 3, 5, 4, 18, 11, 12, 9, 13, 19, 20, 21, 22, 2, 23, 24, 25, 26, 27, 28, 29, 30, 31, 32, 33, 34, 35, 36, 37, 38, 39, 40, 41, 42, 43, 44, 45, 46, 47, 48, 49, 50, 51, 52, 53, 54, 55, 56, 57, 58, 59, 60, 61, 62, 63, 64, 65, 66, 67, 68, 69, 70, 71, 79, 80, 81, 82, 83, 84, 85, 86, 87] (by decide +kernel) (by decide +kernel)
set_option maxRecDepth 20000 in
theorem gX3_nextToken_X3_takeWord : GoodIn wsX3_nextToken (wsV RX3 78 RX3 yX3_takeWord wsX3_takeWord) := goodIn_app (goodIn_of _ (by decide +kernel)) ggX3_nextToken_X3_takeWord
set_option maxRecDepth 20000 in
theorem ggX3_nextToken_X3_isFigure : GoodIn wsX3_nextToken wsX3_isFigure := goodIn_r _ [74] (by decide +kernel) (by decide +kernel)
set_option maxRecDepth 20000 in
theorem gX3_nextToken_X3_isFigure : GoodIn wsX3_nextToken (va_wsS RX3 81 yX3_isFigure wsX3_isFigure) := goodIn_app (goodIn_of _ (by decide +kernel)) ggX3_nextToken_X3_isFigure
set_option maxRecDepth 20000 in
theorem ggX3_nextToken_X3_takeNumber : GoodIn wsX3_nextToken wsX3_takeNumber := goodIn_r _ [78, 18, 1, 3, 5, 2, 4, 72, 73, 9, 74, 79, 80, 81, 82, 83, 84, 85, 86, 87] (by decide +kernel) (by decide +kernel)
set_option maxRecDepth 20000 in
theorem gX3_nextToken_X3_takeNumber : GoodIn wsX3_nextToken (wsV RX3 84 RX3 yX3_takeNumber wsX3_takeNumber) := goodIn_app (goodIn_of _ (by decide +kernel)) ggX3_nextToken_X3_takeNumber
theorem dX3_nextToken_0 : decode cX3_nextToken 0 = .ok (.aload_n 0, 1) := by decide +kernel
theorem dX3_nextToken_1 : decode cX3_nextToken 1 = .ok (.invokevirtual 72, 3) := by decide +kernel
theorem dX3_nextToken_4 : decode cX3_nextToken 4 = .ok (.aload_n 0, 1) := by decide +kernel
theorem dX3_nextToken_5 : decode cX3_nextToken 5 = .ok (.aload_n 0, 1) := by decide +kernel
theorem dX3_nextToken_6 : decode cX3_nextToken 6 = .ok (.getfield 27, 3) := by decide +kernel
theorem dX3_nextToken_9 : decode cX3_nextToken 9 = .ok (.putfield 42, 3) := by decide +kernel
theorem dX3_nextToken_12 : decode cX3_nextToken 12 = .ok (.aload_n 0, 1) := by decide +kernel
theorem dX3_nextToken_13 : decode cX3_nextToken 13 = .ok (.getfield 27, 3) := by decide +kernel
theorem dX3_nextToken_16 : decode cX3_nextToken 16 = .ok (.aload_n 0, 1) := by decide +kernel
theorem dX3_nextToken_17 : decode cX3_nextToken 17 = .ok (.getfield 18, 3) := by decide +kernel
theorem dX3_nextToken_20 : decode cX3_nextToken 20 = .ok (.if_icmp .lt 11, 3) := by decide +kernel
theorem dX3_nextToken_23 : decode cX3_nextToken 23 = .ok (.aload_n 0, 1) := by decide +kernel
theorem dX3_nextToken_24 : decode cX3_nextToken 24 = .ok (.iconst 0, 1) := by decide +kernel
theorem dX3_nextToken_25 : decode cX3_nextToken 25 = .ok (.putfield 39, 3) := by decide +kernel
theorem dX3_nextToken_28 : decode cX3_nextToken 28 = .ok (.goto 80, 3) := by decide +kernel
theorem dX3_nextToken_31 : decode cX3_nextToken 31 = .ok (.aload_n 0, 1) := by decide +kernel
theorem dX3_nextToken_32 : decode cX3_nextToken 32 = .ok (.getfield 9, 3) := by decide +kernel
theorem dX3_nextToken_35 : decode cX3_nextToken 35 = .ok (.aload_n 0, 1) := by decide +kernel
theorem dX3_nextToken_36 : decode cX3_nextToken 36 = .ok (.getfield 27, 3) := by decide +kernel
theorem dX3_nextToken_39 : decode cX3_nextToken 39 = .ok (.iaload, 1) := by decide +kernel
theorem dX3_nextToken_40 : decode cX3_nextToken 40 = .ok (.invokestatic 75, 3) := by decide +kernel
theorem dX3_nextToken_43 : decode cX3_nextToken 43 = .ok (.ifCond .eq 10, 3) := by decide +kernel
theorem dX3_nextToken_46 : decode cX3_nextToken 46 = .ok (.aload_n 0, 1) := by decide +kernel
theorem dX3_nextToken_47 : decode cX3_nextToken 47 = .ok (.invokevirtual 78, 3) := by decide +kernel
theorem dX3_nextToken_50 : decode cX3_nextToken 50 = .ok (.goto 58, 3) := by decide +kernel
theorem dX3_nextToken_53 : decode cX3_nextToken 53 = .ok (.aload_n 0, 1) := by decide +kernel
theorem dX3_nextToken_54 : decode cX3_nextToken 54 = .ok (.getfield 9, 3) := by decide +kernel
theorem dX3_nextToken_57 : decode cX3_nextToken 57 = .ok (.aload_n 0, 1) := by decide +kernel
theorem dX3_nextToken_58 : decode cX3_nextToken 58 = .ok (.getfield 27, 3) := by decide +kernel
theorem dX3_nextToken_61 : decode cX3_nextToken 61 = .ok (.iaload, 1) := by decide +kernel
theorem dX3_nextToken_62 : decode cX3_nextToken 62 = .ok (.invokestatic 81, 3) := by decide +kernel
theorem dX3_nextToken_65 : decode cX3_nextToken 65 = .ok (.ifCond .eq 10, 3) := by decide +kernel
theorem dX3_nextToken_68 : decode cX3_nextToken 68 = .ok (.aload_n 0, 1) := by decide +kernel
theorem dX3_nextToken_69 : decode cX3_nextToken 69 = .ok (.invokevirtual 84, 3) := by decide +kernel
theorem dX3_nextToken_72 : decode cX3_nextToken 72 = .ok (.goto 36, 3) := by decide +kernel
theorem dX3_nextToken_75 : decode cX3_nextToken 75 = .ok (.aload_n 0, 1) := by decide +kernel
theorem dX3_nextToken_76 : decode cX3_nextToken 76 = .ok (.aload_n 0, 1) := by decide +kernel
theorem dX3_nextToken_77 : decode cX3_nextToken 77 = .ok (.getfield 9, 3) := by decide +kernel
theorem dX3_nextToken_80 : decode cX3_nextToken 80 = .ok (.aload_n 0, 1) := by decide +kernel
theorem dX3_nextToken_81 : decode cX3_nextToken 81 = .ok (.getfield 27, 3) := by decide +kernel
theorem dX3_nextToken_84 : decode cX3_nextToken 84 = .ok (.iaload, 1) := by decide +kernel
theorem dX3_nextToken_85 : decode cX3_nextToken 85 = .ok (.bipush 59, 2) := by decide +kernel
theorem dX3_nextToken_87 : decode cX3_nextToken 87 = .ok (.if_icmp .ne 7, 3) := by decide +kernel
theorem dX3_nextToken_90 : decode cX3_nextToken 90 = .ok (.iconst 3, 1) := by decide +kernel
theorem dX3_nextToken_91 : decode cX3_nextToken 91 = .ok (.goto 4, 3) := by decide +kernel
theorem dX3_nextToken_94 : decode cX3_nextToken 94 = .ok (.iconst 4, 1) := by decide +kernel
theorem dX3_nextToken_95 : decode cX3_nextToken 95 = .ok (.putfield 39, 3) := by decide +kernel
theorem dX3_nextToken_98 : decode cX3_nextToken 98 = .ok (.aload_n 0, 1) := by decide +kernel
theorem dX3_nextToken_99 : decode cX3_nextToken 99 = .ok (.dup, 1) := by decide +kernel
theorem dX3_nextToken_100 : decode cX3_nextToken 100 = .ok (.getfield 27, 3) := by decide +kernel
theorem dX3_nextToken_103 : decode cX3_nextToken 103 = .ok (.iconst 1, 1) := by decide +kernel
theorem dX3_nextToken_104 : decode cX3_nextToken 104 = .ok (.iadd, 1) := by decide +kernel
theorem dX3_nextToken_105 : decode cX3_nextToken 105 = .ok (.putfield 27, 3) := by decide +kernel
theorem dX3_nextToken_108 : decode cX3_nextToken 108 = .ok (.return_, 1) := by decide +kernel
theorem dX3_skipBlanks_0 : decode cX3_skipBlanks 0 = .ok (.aload_n 0, 1) := by decide +kernel
theorem dX3_skipBlanks_1 : decode cX3_skipBlanks 1 = .ok (.getfield 27, 3) := by decide +kernel
theorem dX3_skipBlanks_4 : decode cX3_skipBlanks 4 = .ok (.aload_n 0, 1) := by decide +kernel
theorem dX3_skipBlanks_5 : decode cX3_skipBlanks 5 = .ok (.getfield 18, 3) := by decide +kernel
theorem dX3_skipBlanks_8 : decode cX3_skipBlanks 8 = .ok (.if_icmp .ge 30, 3) := by decide +kernel
theorem dX3_skipBlanks_11 : decode cX3_skipBlanks 11 = .ok (.aload_n 0, 1) := by decide +kernel
theorem dX3_skipBlanks_12 : decode cX3_skipBlanks 12 = .ok (.getfield 9, 3) := by decide +kernel
theorem dX3_skipBlanks_15 : decode cX3_skipBlanks 15 = .ok (.aload_n 0, 1) := by decide +kernel
theorem dX3_skipBlanks_16 : decode cX3_skipBlanks 16 = .ok (.getfield 27, 3) := by decide +kernel
theorem dX3_skipBlanks_19 : decode cX3_skipBlanks 19 = .ok (.iaload, 1) := by decide +kernel
theorem dX3_skipBlanks_20 : decode cX3_skipBlanks 20 = .ok (.bipush 32, 2) := by decide +kernel
theorem dX3_skipBlanks_22 : decode cX3_skipBlanks 22 = .ok (.if_icmp .ne 16, 3) := by decide +kernel
theorem dX3_skipBlanks_25 : decode cX3_skipBlanks 25 = .ok (.aload_n 0, 1) := by decide +kernel
theorem dX3_skipBlanks_26 : decode cX3_skipBlanks 26 = .ok (.dup, 1) := by decide +kernel
theorem dX3_skipBlanks_27 : decode cX3_skipBlanks 27 = .ok (.getfield 27, 3) := by decide +kernel
theorem dX3_skipBlanks_30 : decode cX3_skipBlanks 30 = .ok (.iconst 1, 1) := by decide +kernel
theorem dX3_skipBlanks_31 : decode cX3_skipBlanks 31 = .ok (.iadd, 1) := by decide +kernel
theorem dX3_skipBlanks_32 : decode cX3_skipBlanks 32 = .ok (.putfield 27, 3) := by decide +kernel
theorem dX3_skipBlanks_35 : decode cX3_skipBlanks 35 = .ok (.goto (-35), 3) := by decide +kernel
theorem dX3_skipBlanks_38 : decode cX3_skipBlanks 38 = .ok (.return_, 1) := by decide +kernel
theorem dX3_isLetter_0 : decode cX3_isLetter 0 = .ok (.iload_n 0, 1) := by decide +kernel
theorem dX3_isLetter_1 : decode cX3_isLetter 1 = .ok (.bipush 97, 2) := by decide +kernel
theorem dX3_isLetter_3 : decode cX3_isLetter 3 = .ok (.if_icmp .lt 13, 3) := by decide +kernel
theorem dX3_isLetter_6 : decode cX3_isLetter 6 = .ok (.iload_n 0, 1) := by decide +kernel
theorem dX3_isLetter_7 : decode cX3_isLetter 7 = .ok (.bipush 122, 2) := by decide +kernel
theorem dX3_isLetter_9 : decode cX3_isLetter 9 = .ok (.if_icmp .gt 7, 3) := by decide +kernel
theorem dX3_isLetter_12 : decode cX3_isLetter 12 = .ok (.iconst 1, 1) := by decide +kernel
theorem dX3_isLetter_13 : decode cX3_isLetter 13 = .ok (.goto 4, 3) := by decide +kernel
theorem dX3_isLetter_16 : decode cX3_isLetter 16 = .ok (.iconst 0, 1) := by decide +kernel
theorem dX3_isLetter_17 : decode cX3_isLetter 17 = .ok (.ireturn, 1) := by decide +kernel
theorem dX3_isFigure_0 : decode cX3_isFigure 0 = .ok (.iload_n 0, 1) := by decide +kernel
theorem dX3_isFigure_1 : decode cX3_isFigure 1 = .ok (.bipush 48, 2) := by decide +kernel
theorem dX3_isFigure_3 : decode cX3_isFigure 3 = .ok (.if_icmp .lt 13, 3) := by decide +kernel
theorem dX3_isFigure_6 : decode cX3_isFigure 6 = .ok (.iload_n 0, 1) := by decide +kernel
theorem dX3_isFigure_7 : decode cX3_isFigure 7 = .ok (.bipush 57, 2) := by decide +kernel
theorem dX3_isFigure_9 : decode cX3_isFigure 9 = .ok (.if_icmp .gt 7, 3) := by decide +kernel
theorem dX3_isFigure_12 : decode cX3_isFigure 12 = .ok (.iconst 1, 1) := by decide +kernel
theorem dX3_isFigure_13 : decode cX3_isFigure 13 = .ok (.goto 4, 3) := by decide +kernel
theorem dX3_isFigure_16 : decode cX3_isFigure 16 = .ok (.iconst 0, 1) := by decide +kernel
theorem dX3_isFigure_17 : decode cX3_isFigure 17 = .ok (.ireturn, 1) := by decide +kernel
set_option maxRecDepth 20000 in
theorem ggX3_takeWord_X3_isLetter : GoodIn wsX3_takeWord wsX3_isLetter := goodIn_r _ [9] (by decide +kernel) (by decide +kernel)
set_option maxRecDepth 20000 in
theorem gX3_takeWord_X3_isLetter : GoodIn wsX3_takeWord (va_wsS RX3 75 yX3_isLetter wsX3_isLetter) := goodIn_app (goodIn_of _ (by decide +kernel)) ggX3_takeWord_X3_isLetter
set_option maxRecDepth 20000 in
theorem ggX3_takeWord_X3_isWord : GoodIn wsX3_takeWord wsX3_isWord := goodIn_r _ [13, 1, 14, 3, 15, 16, 17, 18, 19, 20, 21, 22, 23, 24, 25, 26, 27, 28, 29, 30, 31, 32, 33, 34, 35, 36, 37, 38, 39, 40, 41, 42, 43, 44, 45, 46, 47, 48, 49, 50, 51, 52, 53, 54, 55, 56, 57, 58, 59, 60, 61, 62, 63, 64, 65, 66, 67, 68, 69, 70, 71, 72] (by decide +kernel) (by decide +kernel)
set_option maxRecDepth 20000 in
theorem gX3_takeWord_X3_isWord : GoodIn wsX3_takeWord (wsV RX3 89 RX3 yX3_isWord wsX3_isWord) := goodIn_app (goodIn_of _ (by decide +kernel)) ggX3_takeWord_X3_isWord
theorem dX3_takeWord_0 : decode cX3_takeWord 0 = .ok (.aload_n 0, 1) := by decide +kernel
theorem dX3_takeWord_1 : decode cX3_takeWord 1 = .ok (.getfield 27, 3) := by decide +kernel
theorem dX3_takeWord_4 : decode cX3_takeWord 4 = .ok (.aload_n 0, 1) := by decide +kernel
theorem dX3_takeWord_5 : decode cX3_takeWord 5 = .ok (.getfield 18, 3) := by decide +kernel
theorem dX3_takeWord_8 : decode cX3_takeWord 8 = .ok (.if_icmp .ge 31, 3) := by decide +kernel
theorem dX3_takeWord_11 : decode cX3_takeWord 11 = .ok (.aload_n 0, 1) := by decide +kernel
theorem dX3_takeWord_12 : decode cX3_takeWord 12 = .ok (.getfield 9, 3) := by decide +kernel
theorem dX3_takeWord_15 : decode cX3_takeWord 15 = .ok (.aload_n 0, 1) := by decide +kernel
theorem dX3_takeWord_16 : decode cX3_takeWord 16 = .ok (.getfield 27, 3) := by decide +kernel
theorem dX3_takeWord_19 : decode cX3_takeWord 19 = .ok (.iaload, 1) := by decide +kernel
theorem dX3_takeWord_20 : decode cX3_takeWord 20 = .ok (.invokestatic 75, 3) := by decide +kernel
theorem dX3_takeWord_23 : decode cX3_takeWord 23 = .ok (.ifCond .eq 16, 3) := by decide +kernel
theorem dX3_takeWord_26 : decode cX3_takeWord 26 = .ok (.aload_n 0, 1) := by decide +kernel
theorem dX3_takeWord_27 : decode cX3_takeWord 27 = .ok (.dup, 1) := by decide +kernel
theorem dX3_takeWord_28 : decode cX3_takeWord 28 = .ok (.getfield 27, 3) := by decide +kernel
theorem dX3_takeWord_31 : decode cX3_takeWord 31 = .ok (.iconst 1, 1) := by decide +kernel
theorem dX3_takeWord_32 : decode cX3_takeWord 32 = .ok (.iadd, 1) := by decide +kernel
theorem dX3_takeWord_33 : decode cX3_takeWord 33 = .ok (.putfield 27, 3) := by decide +kernel
theorem dX3_takeWord_36 : decode cX3_takeWord 36 = .ok (.goto (-36), 3) := by decide +kernel
theorem dX3_takeWord_39 : decode cX3_takeWord 39 = .ok (.aload_n 0, 1) := by decide +kernel
theorem dX3_takeWord_40 : decode cX3_takeWord 40 = .ok (.iconst 1, 1) := by decide +kernel
theorem dX3_takeWord_41 : decode cX3_takeWord 41 = .ok (.putfield 39, 3) := by decide +kernel
theorem dX3_takeWord_44 : decode cX3_takeWord 44 = .ok (.aload_n 0, 1) := by decide +kernel
theorem dX3_takeWord_45 : decode cX3_takeWord 45 = .ok (.ldc 87, 2) := by decide +kernel
theorem dX3_takeWord_47 : decode cX3_takeWord 47 = .ok (.invokevirtual 89, 3) := by decide +kernel
theorem dX3_takeWord_50 : decode cX3_takeWord 50 = .ok (.ifCond .eq 11, 3) := by decide +kernel
theorem dX3_takeWord_53 : decode cX3_takeWord 53 = .ok (.aload_n 0, 1) := by decide +kernel
theorem dX3_takeWord_54 : decode cX3_takeWord 54 = .ok (.iconst 0, 1) := by decide +kernel
theorem dX3_takeWord_55 : decode cX3_takeWord 55 = .ok (.putfield 45, 3) := by decide +kernel
theorem dX3_takeWord_58 : decode cX3_takeWord 58 = .ok (.goto 42, 3) := by decide +kernel
theorem dX3_takeWord_61 : decode cX3_takeWord 61 = .ok (.aload_n 0, 1) := by decide +kernel
theorem dX3_takeWord_62 : decode cX3_takeWord 62 = .ok (.ldc 93, 2) := by decide +kernel
theorem dX3_takeWord_64 : decode cX3_takeWord 64 = .ok (.invokevirtual 89, 3) := by decide +kernel
theorem dX3_takeWord_67 : decode cX3_takeWord 67 = .ok (.ifCond .eq 11, 3) := by decide +kernel
theorem dX3_takeWord_70 : decode cX3_takeWord 70 = .ok (.aload_n 0, 1) := by decide +kernel
theorem dX3_takeWord_71 : decode cX3_takeWord 71 = .ok (.iconst 1, 1) := by decide +kernel
theorem dX3_takeWord_72 : decode cX3_takeWord 72 = .ok (.putfield 45, 3) := by decide +kernel
theorem dX3_takeWord_75 : decode cX3_takeWord 75 = .ok (.goto 25, 3) := by decide +kernel
theorem dX3_takeWord_78 : decode cX3_takeWord 78 = .ok (.aload_n 0, 1) := by decide +kernel
theorem dX3_takeWord_79 : decode cX3_takeWord 79 = .ok (.ldc 95, 2) := by decide +kernel
theorem dX3_takeWord_81 : decode cX3_takeWord 81 = .ok (.invokevirtual 89, 3) := by decide +kernel
theorem dX3_takeWord_84 : decode cX3_takeWord 84 = .ok (.ifCond .eq 11, 3) := by decide +kernel
theorem dX3_takeWord_87 : decode cX3_takeWord 87 = .ok (.aload_n 0, 1) := by decide +kernel
theorem dX3_takeWord_88 : decode cX3_takeWord 88 = .ok (.iconst 2, 1) := by decide +kernel
theorem dX3_takeWord_89 : decode cX3_takeWord 89 = .ok (.putfield 45, 3) := by decide +kernel
theorem dX3_takeWord_92 : decode cX3_takeWord 92 = .ok (.goto 8, 3) := by decide +kernel
theorem dX3_takeWord_95 : decode cX3_takeWord 95 = .ok (.aload_n 0, 1) := by decide +kernel
theorem dX3_takeWord_96 : decode cX3_takeWord 96 = .ok (.iconst 4, 1) := by decide +kernel
theorem dX3_takeWord_97 : decode cX3_takeWord 97 = .ok (.putfield 39, 3) := by decide +kernel
theorem dX3_takeWord_100 : decode cX3_takeWord 100 = .ok (.return_, 1) := by decide +kernel
set_option maxRecDepth 20000 in
theorem ggX3_isWord_J0_length_8abf5 : GoodIn wsX3_isWord wsJ0_length_8abf5 := goodIn_r _ [8, 9, 10, 11, 12, 7, 13, 14, 15] (by decide +kernel) (by decide +kernel)
set_option maxRecDepth 20000 in
theorem gX3_isWord_J0_length_8abf5 : GoodIn wsX3_isWord (wsV RX3 97 RJ0 yJ0_length_8abf5 wsJ0_length_8abf5) := goodIn_app (goodIn_of _ (by decide +kernel)) ggX3_isWord_J0_length_8abf5
set_option maxRecDepth 20000 in
theorem ggX3_isWord_J0_charAt_5068e : GoodIn wsX3_isWord wsJ0_charAt_5068e := goodIn_r _ [19, 9, 20, 21, 22, 7, 23, 14, 15, 24, 25, 26, 27, 28, 29, 30, 31, 32, 33, 34, 35, 36, 37, 38, 39, 40, 41, 42, 43, 44, 45, 46, 47, 48, 49, 50, 51, 52] (by decide +kernel) (by decide +kernel)
set_option maxRecDepth 20000 in
theorem gX3_isWord_J0_charAt_5068e : GoodIn wsX3_isWord (wsV RX3 102 RJ0 yJ0_charAt_5068e wsJ0_charAt_5068e) := goodIn_app (goodIn_of _ (by decide +kernel)) ggX3_isWord_J0_charAt_5068e
theorem dX3_isWord_0 : decode cX3_isWord 0 = .ok (.aload_n 0, 1) := by decide +kernel
theorem dX3_isWord_1 : decode cX3_isWord 1 = .ok (.getfield 27, 3) := by decide +kernel
theorem dX3_isWord_4 : decode cX3_isWord 4 = .ok (.aload_n 0, 1) := by decide +kernel
theorem dX3_isWord_5 : decode cX3_isWord 5 = .ok (.getfield 42, 3) := by decide +kernel
theorem dX3_isWord_8 : decode cX3_isWord 8 = .ok (.isub, 1) := by decide +kernel
theorem dX3_isWord_9 : decode cX3_isWord 9 = .ok (.aload_n 1, 1) := by decide +kernel
theorem dX3_isWord_10 : decode cX3_isWord 10 = .ok (.invokevirtual 97, 3) := by decide +kernel
theorem dX3_isWord_13 : decode cX3_isWord 13 = .ok (.if_icmp .eq 5, 3) := by decide +kernel
theorem dX3_isWord_16 : decode cX3_isWord 16 = .ok (.iconst 0, 1) := by decide +kernel
theorem dX3_isWord_17 : decode cX3_isWord 17 = .ok (.ireturn, 1) := by decide +kernel
theorem dX3_isWord_18 : decode cX3_isWord 18 = .ok (.iconst 0, 1) := by decide +kernel
theorem dX3_isWord_19 : decode cX3_isWord 19 = .ok (.istore_n 2, 1) := by decide +kernel
theorem dX3_isWord_20 : decode cX3_isWord 20 = .ok (.iload_n 2, 1) := by decide +kernel
theorem dX3_isWord_21 : decode cX3_isWord 21 = .ok (.aload_n 1, 1) := by decide +kernel
theorem dX3_isWord_22 : decode cX3_isWord 22 = .ok (.invokevirtual 97, 3) := by decide +kernel
theorem dX3_isWord_25 : decode cX3_isWord 25 = .ok (.if_icmp .ge 30, 3) := by decide +kernel
theorem dX3_isWord_28 : decode cX3_isWord 28 = .ok (.aload_n 0, 1) := by decide +kernel
theorem dX3_isWord_29 : decode cX3_isWord 29 = .ok (.getfield 9, 3) := by decide +kernel
theorem dX3_isWord_32 : decode cX3_isWord 32 = .ok (.aload_n 0, 1) := by decide +kernel
theorem dX3_isWord_33 : decode cX3_isWord 33 = .ok (.getfield 42, 3) := by decide +kernel
theorem dX3_isWord_36 : decode cX3_isWord 36 = .ok (.iload_n 2, 1) := by decide +kernel
theorem dX3_isWord_37 : decode cX3_isWord 37 = .ok (.iadd, 1) := by decide +kernel
theorem dX3_isWord_38 : decode cX3_isWord 38 = .ok (.iaload, 1) := by decide +kernel
theorem dX3_isWord_39 : decode cX3_isWord 39 = .ok (.aload_n 1, 1) := by decide +kernel
theorem dX3_isWord_40 : decode cX3_isWord 40 = .ok (.iload_n 2, 1) := by decide +kernel
theorem dX3_isWord_41 : decode cX3_isWord 41 = .ok (.invokevirtual 102, 3) := by decide +kernel
theorem dX3_isWord_44 : decode cX3_isWord 44 = .ok (.if_icmp .eq 5, 3) := by decide +kernel
theorem dX3_isWord_47 : decode cX3_isWord 47 = .ok (.iconst 0, 1) := by decide +kernel
theorem dX3_isWord_48 : decode cX3_isWord 48 = .ok (.ireturn, 1) := by decide +kernel
theorem dX3_isWord_49 : decode cX3_isWord 49 = .ok (.iinc 2 1, 3) := by decide +kernel
theorem dX3_isWord_52 : decode cX3_isWord 52 = .ok (.goto (-32), 3) := by decide +kernel
theorem dX3_isWord_55 : decode cX3_isWord 55 = .ok (.iconst 1, 1) := by decide +kernel
theorem dX3_isWord_56 : decode cX3_isWord 56 = .ok (.ireturn, 1) := by decide +kernel
set_option maxRecDepth 20000 in
theorem ggX3_takeNumber_X3_isFigure : GoodIn wsX3_takeNumber wsX3_isFigure := goodIn_r _ [10] (by decide +kernel) (by decide +kernel)
set_option maxRecDepth 20000 in
theorem gX3_takeNumber_X3_isFigure : GoodIn wsX3_takeNumber (va_wsS RX3 81 yX3_isFigure wsX3_isFigure) := goodIn_app (goodIn_of _ (by decide +kernel)) ggX3_takeNumber_X3_isFigure
theorem dX3_takeNumber_0 : decode cX3_takeNumber 0 = .ok (.aload_n 0, 1) := by decide +kernel
theorem dX3_takeNumber_1 : decode cX3_takeNumber 1 = .ok (.iconst 0, 1) := by decide +kernel
theorem dX3_takeNumber_2 : decode cX3_takeNumber 2 = .ok (.putfield 45, 3) := by decide +kernel
theorem dX3_takeNumber_5 : decode cX3_takeNumber 5 = .ok (.aload_n 0, 1) := by decide +kernel
theorem dX3_takeNumber_6 : decode cX3_takeNumber 6 = .ok (.getfield 27, 3) := by decide +kernel
theorem dX3_takeNumber_9 : decode cX3_takeNumber 9 = .ok (.aload_n 0, 1) := by decide +kernel
theorem dX3_takeNumber_10 : decode cX3_takeNumber 10 = .ok (.getfield 18, 3) := by decide +kernel
theorem dX3_takeNumber_13 : decode cX3_takeNumber 13 = .ok (.if_icmp .ge 68, 3) := by decide +kernel
theorem dX3_takeNumber_16 : decode cX3_takeNumber 16 = .ok (.aload_n 0, 1) := by decide +kernel
theorem dX3_takeNumber_17 : decode cX3_takeNumber 17 = .ok (.getfield 9, 3) := by decide +kernel
theorem dX3_takeNumber_20 : decode cX3_takeNumber 20 = .ok (.aload_n 0, 1) := by decide +kernel
theorem dX3_takeNumber_21 : decode cX3_takeNumber 21 = .ok (.getfield 27, 3) := by decide +kernel
theorem dX3_takeNumber_24 : decode cX3_takeNumber 24 = .ok (.iaload, 1) := by decide +kernel
theorem dX3_takeNumber_25 : decode cX3_takeNumber 25 = .ok (.invokestatic 81, 3) := by decide +kernel
theorem dX3_takeNumber_28 : decode cX3_takeNumber 28 = .ok (.ifCond .eq 53, 3) := by decide +kernel
theorem dX3_takeNumber_31 : decode cX3_takeNumber 31 = .ok (.aload_n 0, 1) := by decide +kernel
theorem dX3_takeNumber_32 : decode cX3_takeNumber 32 = .ok (.getfield 27, 3) := by decide +kernel
theorem dX3_takeNumber_35 : decode cX3_takeNumber 35 = .ok (.aload_n 0, 1) := by decide +kernel
theorem dX3_takeNumber_36 : decode cX3_takeNumber 36 = .ok (.getfield 42, 3) := by decide +kernel
theorem dX3_takeNumber_39 : decode cX3_takeNumber 39 = .ok (.isub, 1) := by decide +kernel
theorem dX3_takeNumber_40 : decode cX3_takeNumber 40 = .ok (.iconst 4, 1) := by decide +kernel
theorem dX3_takeNumber_41 : decode cX3_takeNumber 41 = .ok (.if_icmp .ge 27, 3) := by decide +kernel
theorem dX3_takeNumber_44 : decode cX3_takeNumber 44 = .ok (.aload_n 0, 1) := by decide +kernel
theorem dX3_takeNumber_45 : decode cX3_takeNumber 45 = .ok (.bipush 10, 2) := by decide +kernel
theorem dX3_takeNumber_47 : decode cX3_takeNumber 47 = .ok (.aload_n 0, 1) := by decide +kernel
theorem dX3_takeNumber_48 : decode cX3_takeNumber 48 = .ok (.getfield 45, 3) := by decide +kernel
theorem dX3_takeNumber_51 : decode cX3_takeNumber 51 = .ok (.imul, 1) := by decide +kernel
theorem dX3_takeNumber_52 : decode cX3_takeNumber 52 = .ok (.aload_n 0, 1) := by decide +kernel
theorem dX3_takeNumber_53 : decode cX3_takeNumber 53 = .ok (.getfield 9, 3) := by decide +kernel
theorem dX3_takeNumber_56 : decode cX3_takeNumber 56 = .ok (.aload_n 0, 1) := by decide +kernel
theorem dX3_takeNumber_57 : decode cX3_takeNumber 57 = .ok (.getfield 27, 3) := by decide +kernel
theorem dX3_takeNumber_60 : decode cX3_takeNumber 60 = .ok (.iaload, 1) := by decide +kernel
theorem dX3_takeNumber_61 : decode cX3_takeNumber 61 = .ok (.iadd, 1) := by decide +kernel
theorem dX3_takeNumber_62 : decode cX3_takeNumber 62 = .ok (.bipush 48, 2) := by decide +kernel
theorem dX3_takeNumber_64 : decode cX3_takeNumber 64 = .ok (.isub, 1) := by decide +kernel
theorem dX3_takeNumber_65 : decode cX3_takeNumber 65 = .ok (.putfield 45, 3) := by decide +kernel
theorem dX3_takeNumber_68 : decode cX3_takeNumber 68 = .ok (.aload_n 0, 1) := by decide +kernel
theorem dX3_takeNumber_69 : decode cX3_takeNumber 69 = .ok (.dup, 1) := by decide +kernel
theorem dX3_takeNumber_70 : decode cX3_takeNumber 70 = .ok (.getfield 27, 3) := by decide +kernel
theorem dX3_takeNumber_73 : decode cX3_takeNumber 73 = .ok (.iconst 1, 1) := by decide +kernel
theorem dX3_takeNumber_74 : decode cX3_takeNumber 74 = .ok (.iadd, 1) := by decide +kernel
theorem dX3_takeNumber_75 : decode cX3_takeNumber 75 = .ok (.putfield 27, 3) := by decide +kernel
theorem dX3_takeNumber_78 : decode cX3_takeNumber 78 = .ok (.goto (-73), 3) := by decide +kernel
theorem dX3_takeNumber_81 : decode cX3_takeNumber 81 = .ok (.aload_n 0, 1) := by decide +kernel
theorem dX3_takeNumber_82 : decode cX3_takeNumber 82 = .ok (.aload_n 0, 1) := by decide +kernel
theorem dX3_takeNumber_83 : decode cX3_takeNumber 83 = .ok (.getfield 27, 3) := by decide +kernel
theorem dX3_takeNumber_86 : decode cX3_takeNumber 86 = .ok (.aload_n 0, 1) := by decide +kernel
theorem dX3_takeNumber_87 : decode cX3_takeNumber 87 = .ok (.getfield 42, 3) := by decide +kernel
theorem dX3_takeNumber_90 : decode cX3_takeNumber 90 = .ok (.isub, 1) := by decide +kernel
theorem dX3_takeNumber_91 : decode cX3_takeNumber 91 = .ok (.iconst 4, 1) := by decide +kernel
theorem dX3_takeNumber_92 : decode cX3_takeNumber 92 = .ok (.if_icmp .gt 7, 3) := by decide +kernel
theorem dX3_takeNumber_95 : decode cX3_takeNumber 95 = .ok (.iconst 2, 1) := by decide +kernel
theorem dX3_takeNumber_96 : decode cX3_takeNumber 96 = .ok (.goto 4, 3) := by decide +kernel
theorem dX3_takeNumber_99 : decode cX3_takeNumber 99 = .ok (.iconst 4, 1) := by decide +kernel
theorem dX3_takeNumber_100 : decode cX3_takeNumber 100 = .ok (.putfield 39, 3) := by decide +kernel
theorem dX3_takeNumber_103 : decode cX3_takeNumber 103 = .ok (.return_, 1) := by decide +kernel
set_option maxRecDepth 20000 in
theorem ggX4_isTune_X4_notes : GoodIn wsX4_isTune wsX4_notes := goodIn_r _ [4] (by decide +kernel) (by decide +kernel)
set_option maxRecDepth 20000 in
theorem gX4_isTune_X4_notes : GoodIn wsX4_isTune (va_wsS RX4 7 yX4_notes wsX4_notes) := goodIn_app (goodIn_of _ (by decide +kernel)) ggX4_isTune_X4_notes
theorem dX4_isTune_0 : decode cX4_isTune 0 = .ok (.iload_n 0, 1) := by decide +kernel
theorem dX4_isTune_1 : decode cX4_isTune 1 = .ok (.invokestatic 7, 3) := by decide +kernel
theorem dX4_isTune_4 : decode cX4_isTune 4 = .ok (.ifCond .le 7, 3) := by decide +kernel
theorem dX4_isTune_7 : decode cX4_isTune 7 = .ok (.iconst 1, 1) := by decide +kernel
theorem dX4_isTune_8 : decode cX4_isTune 8 = .ok (.goto 4, 3) := by decide +kernel
theorem dX4_isTune_11 : decode cX4_isTune 11 = .ok (.iconst 0, 1) := by decide +kernel
theorem dX4_isTune_12 : decode cX4_isTune 12 = .ok (.ireturn, 1) := by decide +kernel
theorem dX4_notes_0 : decode cX4_notes 0 = .ok (.iconst 1, 1) := by decide +kernel
theorem dX4_notes_1 : decode cX4_notes 1 = .ok (.istore_n 1, 1) := by decide +kernel
theorem dX4_notes_2 : decode cX4_notes 2 = .ok (.iload_n 1, 1) := by decide +kernel
theorem dX4_notes_3 : decode cX4_notes 3 = .ok (.iconst 5, 1) := by decide +kernel
theorem dX4_notes_4 : decode cX4_notes 4 = .ok (.if_icmp .gt 20, 3) := by decide +kernel
theorem dX4_notes_7 : decode cX4_notes 7 = .ok (.iload_n 0, 1) := by decide +kernel
theorem dX4_notes_8 : decode cX4_notes 8 = .ok (.iconst 2, 1) := by decide +kernel
theorem dX4_notes_9 : decode cX4_notes 9 = .ok (.iload_n 1, 1) := by decide +kernel
theorem dX4_notes_10 : decode cX4_notes 10 = .ok (.imul, 1) := by decide +kernel
theorem dX4_notes_11 : decode cX4_notes 11 = .ok (.ishr, 1) := by decide +kernel
theorem dX4_notes_12 : decode cX4_notes 12 = .ok (.iconst 1, 1) := by decide +kernel
theorem dX4_notes_13 : decode cX4_notes 13 = .ok (.if_icmp .ne 5, 3) := by decide +kernel
theorem dX4_notes_16 : decode cX4_notes 16 = .ok (.iload_n 1, 1) := by decide +kernel
theorem dX4_notes_17 : decode cX4_notes 17 = .ok (.ireturn, 1) := by decide +kernel
theorem dX4_notes_18 : decode cX4_notes 18 = .ok (.iinc 1 1, 3) := by decide +kernel
theorem dX4_notes_21 : decode cX4_notes 21 = .ok (.goto (-19), 3) := by decide +kernel
theorem dX4_notes_24 : decode cX4_notes 24 = .ok (.iconst 0, 1) := by decide +kernel
theorem dX4_notes_25 : decode cX4_notes 25 = .ok (.ireturn, 1) := by decide +kernel
set_option maxRecDepth 20000 in
theorem ggX4_firstHalf_X4_notes : GoodIn wsX4_firstHalf wsX4_notes := goodIn_r _ [4] (by decide +kernel) (by decide +kernel)
set_option maxRecDepth 20000 in
theorem gX4_firstHalf_X4_notes : GoodIn wsX4_firstHalf (va_wsS RX4 7 yX4_notes wsX4_notes) := goodIn_app (goodIn_of _ (by decide +kernel)) ggX4_firstHalf_X4_notes
theorem dX4_firstHalf_0 : decode cX4_firstHalf 0 = .ok (.iload_n 0, 1) := by decide +kernel
theorem dX4_firstHalf_1 : decode cX4_firstHalf 1 = .ok (.iconst 2, 1) := by decide +kernel
theorem dX4_firstHalf_2 : decode cX4_firstHalf 2 = .ok (.iload_n 0, 1) := by decide +kernel
theorem dX4_firstHalf_3 : decode cX4_firstHalf 3 = .ok (.invokestatic 7, 3) := by decide +kernel
theorem dX4_firstHalf_6 : decode cX4_firstHalf 6 = .ok (.iconst 2, 1) := by decide +kernel
theorem dX4_firstHalf_7 : decode cX4_firstHalf 7 = .ok (.idiv, 1) := by decide +kernel
theorem dX4_firstHalf_8 : decode cX4_firstHalf 8 = .ok (.imul, 1) := by decide +kernel
theorem dX4_firstHalf_9 : decode cX4_firstHalf 9 = .ok (.ishr, 1) := by decide +kernel
theorem dX4_firstHalf_10 : decode cX4_firstHalf 10 = .ok (.ireturn, 1) := by decide +kernel
set_option maxRecDepth 20000 in
theorem ggX4_lessLost_X4_notes : GoodIn wsX4_lessLost wsX4_notes := goodIn_r _ [4] (by decide +kernel) (by decide +kernel)
set_option maxRecDepth 20000 in
theorem gX4_lessLost_X4_notes : GoodIn wsX4_lessLost (va_wsS RX4 7 yX4_notes wsX4_notes) := goodIn_app (goodIn_of _ (by decide +kernel)) ggX4_lessLost_X4_notes
theorem dX4_lessLost_0 : decode cX4_lessLost 0 = .ok (.iload_n 1, 1) := by decide +kernel
theorem dX4_lessLost_1 : decode cX4_lessLost 1 = .ok (.iconst 1, 1) := by decide +kernel
theorem dX4_lessLost_2 : decode cX4_lessLost 2 = .ok (.if_icmp .ge 5, 3) := by decide +kernel
theorem dX4_lessLost_5 : decode cX4_lessLost 5 = .ok (.iload_n 0, 1) := by decide +kernel
theorem dX4_lessLost_6 : decode cX4_lessLost 6 = .ok (.ireturn, 1) := by decide +kernel
theorem dX4_lessLost_7 : decode cX4_lessLost 7 = .ok (.iconst 1, 1) := by decide +kernel
theorem dX4_lessLost_8 : decode cX4_lessLost 8 = .ok (.istore_n 2, 1) := by decide +kernel
theorem dX4_lessLost_9 : decode cX4_lessLost 9 = .ok (.iload_n 0, 1) := by decide +kernel
theorem dX4_lessLost_10 : decode cX4_lessLost 10 = .ok (.invokestatic 7, 3) := by decide +kernel
theorem dX4_lessLost_13 : decode cX4_lessLost 13 = .ok (.iconst 1, 1) := by decide +kernel
theorem dX4_lessLost_14 : decode cX4_lessLost 14 = .ok (.isub, 1) := by decide +kernel
theorem dX4_lessLost_15 : decode cX4_lessLost 15 = .ok (.istore_n 3, 1) := by decide +kernel
theorem dX4_lessLost_16 : decode cX4_lessLost 16 = .ok (.iload_n 3, 1) := by decide +kernel
theorem dX4_lessLost_17 : decode cX4_lessLost 17 = .ok (.ifCond .lt 33, 3) := by decide +kernel
theorem dX4_lessLost_20 : decode cX4_lessLost 20 = .ok (.iload_n 0, 1) := by decide +kernel
theorem dX4_lessLost_21 : decode cX4_lessLost 21 = .ok (.iconst 2, 1) := by decide +kernel
theorem dX4_lessLost_22 : decode cX4_lessLost 22 = .ok (.iload_n 3, 1) := by decide +kernel
theorem dX4_lessLost_23 : decode cX4_lessLost 23 = .ok (.imul, 1) := by decide +kernel
theorem dX4_lessLost_24 : decode cX4_lessLost 24 = .ok (.ishr, 1) := by decide +kernel
theorem dX4_lessLost_25 : decode cX4_lessLost 25 = .ok (.iconst 3, 1) := by decide +kernel
theorem dX4_lessLost_26 : decode cX4_lessLost 26 = .ok (.iand, 1) := by decide +kernel
theorem dX4_lessLost_27 : decode cX4_lessLost 27 = .ok (.istore 4, 2) := by decide +kernel
theorem dX4_lessLost_29 : decode cX4_lessLost 29 = .ok (.iload 4, 2) := by decide +kernel
theorem dX4_lessLost_31 : decode cX4_lessLost 31 = .ok (.iconst 3, 1) := by decide +kernel
theorem dX4_lessLost_32 : decode cX4_lessLost 32 = .ok (.iload_n 1, 1) := by decide +kernel
theorem dX4_lessLost_33 : decode cX4_lessLost 33 = .ok (.isub, 1) := by decide +kernel
theorem dX4_lessLost_34 : decode cX4_lessLost 34 = .ok (.if_icmp .gt 10, 3) := by decide +kernel
theorem dX4_lessLost_37 : decode cX4_lessLost 37 = .ok (.iconst 4, 1) := by decide +kernel
theorem dX4_lessLost_38 : decode cX4_lessLost 38 = .ok (.iload_n 2, 1) := by decide +kernel
theorem dX4_lessLost_39 : decode cX4_lessLost 39 = .ok (.imul, 1) := by decide +kernel
theorem dX4_lessLost_40 : decode cX4_lessLost 40 = .ok (.iload 4, 2) := by decide +kernel
theorem dX4_lessLost_42 : decode cX4_lessLost 42 = .ok (.iadd, 1) := by decide +kernel
theorem dX4_lessLost_43 : decode cX4_lessLost 43 = .ok (.istore_n 2, 1) := by decide +kernel
theorem dX4_lessLost_44 : decode cX4_lessLost 44 = .ok (.iinc 3 (-1), 3) := by decide +kernel
theorem dX4_lessLost_47 : decode cX4_lessLost 47 = .ok (.goto (-31), 3) := by decide +kernel
theorem dX4_lessLost_50 : decode cX4_lessLost 50 = .ok (.iload_n 2, 1) := by decide +kernel
theorem dX4_lessLost_51 : decode cX4_lessLost 51 = .ok (.ireturn, 1) := by decide +kernel
theorem dX4_lisped_0 : decode cX4_lisped 0 = .ok (.iload_n 0, 1) := by decide +kernel
theorem dX4_lisped_1 : decode cX4_lisped 1 = .ok (.iconst 1, 1) := by decide +kernel
theorem dX4_lisped_2 : decode cX4_lisped 2 = .ok (.ishr, 1) := by decide +kernel
theorem dX4_lisped_3 : decode cX4_lisped 3 = .ok (.iload_n 0, 1) := by decide +kernel
theorem dX4_lisped_4 : decode cX4_lisped 4 = .ok (.iconst (-1), 1) := by decide +kernel
theorem dX4_lisped_5 : decode cX4_lisped 5 = .ok (.ixor, 1) := by decide +kernel
theorem dX4_lisped_6 : decode cX4_lisped 6 = .ok (.iand, 1) := by decide +kernel
theorem dX4_lisped_7 : decode cX4_lisped 7 = .ok (.sipush 1365, 3) := by decide +kernel
theorem dX4_lisped_10 : decode cX4_lisped 10 = .ok (.iand, 1) := by decide +kernel
theorem dX4_lisped_11 : decode cX4_lisped 11 = .ok (.istore_n 1, 1) := by decide +kernel
theorem dX4_lisped_12 : decode cX4_lisped 12 = .ok (.iload_n 0, 1) := by decide +kernel
theorem dX4_lisped_13 : decode cX4_lisped 13 = .ok (.iload_n 1, 1) := by decide +kernel
theorem dX4_lisped_14 : decode cX4_lisped 14 = .ok (.isub, 1) := by decide +kernel
theorem dX4_lisped_15 : decode cX4_lisped 15 = .ok (.ireturn, 1) := by decide +kernel
theorem dX4_begins_0 : decode cX4_begins 0 = .ok (.iconst 0, 1) := by decide +kernel
theorem dX4_begins_1 : decode cX4_begins 1 = .ok (.istore_n 2, 1) := by decide +kernel
theorem dX4_begins_2 : decode cX4_begins 2 = .ok (.iload_n 2, 1) := by decide +kernel
theorem dX4_begins_3 : decode cX4_begins 3 = .ok (.iconst 5, 1) := by decide +kernel
theorem dX4_begins_4 : decode cX4_begins 4 = .ok (.if_icmp .ge 20, 3) := by decide +kernel
theorem dX4_begins_7 : decode cX4_begins 7 = .ok (.iload_n 0, 1) := by decide +kernel
theorem dX4_begins_8 : decode cX4_begins 8 = .ok (.iconst 2, 1) := by decide +kernel
theorem dX4_begins_9 : decode cX4_begins 9 = .ok (.iload_n 2, 1) := by decide +kernel
theorem dX4_begins_10 : decode cX4_begins 10 = .ok (.imul, 1) := by decide +kernel
theorem dX4_begins_11 : decode cX4_begins 11 = .ok (.ishr, 1) := by decide +kernel
theorem dX4_begins_12 : decode cX4_begins 12 = .ok (.iload_n 1, 1) := by decide +kernel
theorem dX4_begins_13 : decode cX4_begins 13 = .ok (.if_icmp .ne 5, 3) := by decide +kernel
theorem dX4_begins_16 : decode cX4_begins 16 = .ok (.iconst 1, 1) := by decide +kernel
theorem dX4_begins_17 : decode cX4_begins 17 = .ok (.ireturn, 1) := by decide +kernel
theorem dX4_begins_18 : decode cX4_begins 18 = .ok (.iinc 2 1, 3) := by decide +kernel
theorem dX4_begins_21 : decode cX4_begins 21 = .ok (.goto (-19), 3) := by decide +kernel
theorem dX4_begins_24 : decode cX4_begins 24 = .ok (.iconst 0, 1) := by decide +kernel
theorem dX4_begins_25 : decode cX4_begins 25 = .ok (.ireturn, 1) := by decide +kernel
set_option maxRecDepth 20000 in
theorem ggX5_init_X1_init : GoodIn wsX5_init wsX1_init := goodIn_r _ [14, 15, 2, 3] (by decide +kernel) (by decide +kernel)
set_option maxRecDepth 20000 in
theorem gX5_init_X1_init_n27 : GoodIn wsX5_init (wsX1_init) := ggX5_init_X1_init
theorem dX5_init_0 : decode cX5_init 0 = .ok (.aload_n 0, 1) := by decide +kernel
theorem dX5_init_1 : decode cX5_init 1 = .ok (.invokespecial 3, 3) := by decide +kernel
theorem dX5_init_4 : decode cX5_init 4 = .ok (.aload_n 0, 1) := by decide +kernel
theorem dX5_init_5 : decode cX5_init 5 = .ok (.bipush 7, 2) := by decide +kernel
theorem dX5_init_7 : decode cX5_init 7 = .ok (.newarray .int, 2) := by decide +kernel
theorem dX5_init_9 : decode cX5_init 9 = .ok (.putfield 9, 3) := by decide +kernel
theorem dX5_init_12 : decode cX5_init 12 = .ok (.aload_n 0, 1) := by decide +kernel
theorem dX5_init_13 : decode cX5_init 13 = .ok (.bipush 7, 2) := by decide +kernel
theorem dX5_init_15 : decode cX5_init 15 = .ok (.newarray .int, 2) := by decide +kernel
theorem dX5_init_17 : decode cX5_init 17 = .ok (.putfield 15, 3) := by decide +kernel
theorem dX5_init_20 : decode cX5_init 20 = .ok (.aload_n 0, 1) := by decide +kernel
theorem dX5_init_21 : decode cX5_init 21 = .ok (.bipush 7, 2) := by decide +kernel
theorem dX5_init_23 : decode cX5_init 23 = .ok (.newarray .int, 2) := by decide +kernel
theorem dX5_init_25 : decode cX5_init 25 = .ok (.putfield 18, 3) := by decide +kernel
theorem dX5_init_28 : decode cX5_init 28 = .ok (.aload_n 0, 1) := by decide +kernel
theorem dX5_init_29 : decode cX5_init 29 = .ok (.bipush 7, 2) := by decide +kernel
theorem dX5_init_31 : decode cX5_init 31 = .ok (.anewarray 21, 3) := by decide +kernel
theorem dX5_init_34 : decode cX5_init 34 = .ok (.putfield 23, 3) := by decide +kernel
theorem dX5_init_37 : decode cX5_init 37 = .ok (.iconst 0, 1) := by decide +kernel
theorem dX5_init_38 : decode cX5_init 38 = .ok (.istore_n 1, 1) := by decide +kernel
theorem dX5_init_39 : decode cX5_init 39 = .ok (.iload_n 1, 1) := by decide +kernel
theorem dX5_init_40 : decode cX5_init 40 = .ok (.bipush 7, 2) := by decide +kernel
theorem dX5_init_42 : decode cX5_init 42 = .ok (.if_icmp .ge 22, 3) := by decide +kernel
theorem dX5_init_45 : decode cX5_init 45 = .ok (.aload_n 0, 1) := by decide +kernel
theorem dX5_init_46 : decode cX5_init 46 = .ok (.getfield 23, 3) := by decide +kernel
theorem dX5_init_49 : decode cX5_init 49 = .ok (.iload_n 1, 1) := by decide +kernel
theorem dX5_init_50 : decode cX5_init 50 = .ok (.new 21, 3) := by decide +kernel
theorem dX5_init_53 : decode cX5_init 53 = .ok (.dup, 1) := by decide +kernel
theorem dX5_init_54 : decode cX5_init 54 = .ok (.invokespecial 27, 3) := by decide +kernel
theorem dX5_init_57 : decode cX5_init 57 = .ok (.aastore, 1) := by decide +kernel
theorem dX5_init_58 : decode cX5_init 58 = .ok (.iinc 1 1, 3) := by decide +kernel
theorem dX5_init_61 : decode cX5_init 61 = .ok (.goto (-22), 3) := by decide +kernel
theorem dX5_init_64 : decode cX5_init 64 = .ok (.aload_n 0, 1) := by decide +kernel
theorem dX5_init_65 : decode cX5_init 65 = .ok (.new 21, 3) := by decide +kernel
theorem dX5_init_68 : decode cX5_init 68 = .ok (.dup, 1) := by decide +kernel
theorem dX5_init_69 : decode cX5_init 69 = .ok (.invokespecial 27, 3) := by decide +kernel
theorem dX5_init_72 : decode cX5_init 72 = .ok (.putfield 28, 3) := by decide +kernel
theorem dX5_init_75 : decode cX5_init 75 = .ok (.return_, 1) := by decide +kernel
set_option maxRecDepth 20000 in
theorem ggX5_turners_X5_listen : GoodIn wsX5_turners wsX5_listen := goodIn_r _ [6, 1, 7, 8, 9, 10, 11, 12, 13, 14, 15, 16, 17, 18, 19, 20, 21, 22, 23, 24, 25, 26, 27, 28, 29, 30, 31, 32, 33, 34, 59, 60, 61, 62, 63, 64, 65, 66, 67, 68, 69, 70, 71, 72, 73, 74, 75, 76, 77, 78, 79, 80] (by decide +kernel) (by decide +kernel)
set_option maxRecDepth 20000 in
theorem gX5_turners_X5_listen : GoodIn wsX5_turners (wsV RX5 32 RX5 yX5_listen wsX5_listen) := goodIn_app (goodIn_of _ (by decide +kernel)) ggX5_turners_X5_listen
set_option maxRecDepth 20000 in
theorem ggX5_turners_X5_turnersReady : GoodIn wsX5_turners wsX5_turnersReady := goodIn_r _ [38, 7, 39, 29, 23, 30, 25, 26, 27, 40, 41, 42, 15, 43, 20, 17, 18, 19, 44, 45, 46, 47, 48, 49, 50, 51, 52, 53, 54, 55, 56, 57, 58, 70, 71, 72, 73, 74, 75, 76, 77, 78, 79, 80] (by decide +kernel) (by decide +kernel)
set_option maxRecDepth 20000 in
theorem gX5_turners_X5_turnersReady : GoodIn wsX5_turners (wsV RX5 42 RX5 yX5_turnersReady wsX5_turnersReady) := goodIn_app (goodIn_of _ (by decide +kernel)) ggX5_turners_X5_turnersReady
theorem dX5_turners_0 : decode cX5_turners 0 = .ok (.aload_n 0, 1) := by decide +kernel
theorem dX5_turners_1 : decode cX5_turners 1 = .ok (.aload_n 1, 1) := by decide +kernel
theorem dX5_turners_2 : decode cX5_turners 2 = .ok (.iload_n 2, 1) := by decide +kernel
theorem dX5_turners_3 : decode cX5_turners 3 = .ok (.iload 4, 2) := by decide +kernel
theorem dX5_turners_5 : decode cX5_turners 5 = .ok (.invokevirtual 32, 3) := by decide +kernel
theorem dX5_turners_8 : decode cX5_turners 8 = .ok (.aload_n 0, 1) := by decide +kernel
theorem dX5_turners_9 : decode cX5_turners 9 = .ok (.aload_n 1, 1) := by decide +kernel
theorem dX5_turners_10 : decode cX5_turners 10 = .ok (.getfield 36, 3) := by decide +kernel
theorem dX5_turners_13 : decode cX5_turners 13 = .ok (.iload_n 3, 1) := by decide +kernel
theorem dX5_turners_14 : decode cX5_turners 14 = .ok (.iload 4, 2) := by decide +kernel
theorem dX5_turners_16 : decode cX5_turners 16 = .ok (.invokevirtual 42, 3) := by decide +kernel
theorem dX5_turners_19 : decode cX5_turners 19 = .ok (.ireturn, 1) := by decide +kernel
set_option maxRecDepth 20000 in
theorem ggX5_listen_X1_makeReady : GoodIn wsX5_listen wsX1_makeReady := goodIn_r _ [11, 12, 13, 14, 15, 16, 17, 18, 19, 20, 21, 22, 23, 24, 25, 48, 49, 50, 51] (by decide +kernel) (by decide +kernel)
set_option maxRecDepth 20000 in
theorem gX5_listen_X1_makeReady : GoodIn wsX5_listen (wsV RX5 52 RX1 yX1_makeReady wsX1_makeReady) := goodIn_app (goodIn_of _ (by decide +kernel)) ggX5_listen_X1_makeReady
set_option maxRecDepth 20000 in
theorem ggX5_listen_X1_fallAsleep : GoodIn wsX5_listen wsX1_fallAsleep := goodIn_r _ [29, 15, 48, 49, 50, 51] (by decide +kernel) (by decide +kernel)
set_option maxRecDepth 20000 in
theorem gX5_listen_X1_fallAsleep : GoodIn wsX5_listen (wsV RX5 62 RX1 yX1_fallAsleep wsX1_fallAsleep) := goodIn_app (goodIn_of _ (by decide +kernel)) ggX5_listen_X1_fallAsleep
theorem dX5_listen_0 : decode cX5_listen 0 = .ok (.iconst 0, 1) := by decide +kernel
theorem dX5_listen_1 : decode cX5_listen 1 = .ok (.istore 4, 2) := by decide +kernel
theorem dX5_listen_3 : decode cX5_listen 3 = .ok (.iload 4, 2) := by decide +kernel
theorem dX5_listen_5 : decode cX5_listen 5 = .ok (.aload_n 1, 1) := by decide +kernel
