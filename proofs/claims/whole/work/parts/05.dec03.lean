theorem dX5_listen_6 : decode cX5_listen 6 = .ok (.getfield 36, 3) := by decide +kernel
theorem dX5_listen_9 : decode cX5_listen 9 = .ok (.if_icmp .ge 65, 3) := by decide +kernel
theorem dX5_listen_12 : decode cX5_listen 12 = .ok (.aload_n 0, 1) := by decide +kernel
theorem dX5_listen_13 : decode cX5_listen 13 = .ok (.getfield 23, 3) := by decide +kernel
theorem dX5_listen_16 : decode cX5_listen 16 = .ok (.iload 4, 2) := by decide +kernel
theorem dX5_listen_18 : decode cX5_listen 18 = .ok (.aaload, 1) := by decide +kernel
theorem dX5_listen_19 : decode cX5_listen 19 = .ok (.aload_n 1, 1) := by decide +kernel
theorem dX5_listen_20 : decode cX5_listen 20 = .ok (.getfield 46, 3) := by decide +kernel
theorem dX5_listen_23 : decode cX5_listen 23 = .ok (.iload 4, 2) := by decide +kernel
theorem dX5_listen_25 : decode cX5_listen 25 = .ok (.iaload, 1) := by decide +kernel
theorem dX5_listen_26 : decode cX5_listen 26 = .ok (.aload_n 1, 1) := by decide +kernel
theorem dX5_listen_27 : decode cX5_listen 27 = .ok (.getfield 49, 3) := by decide +kernel
theorem dX5_listen_30 : decode cX5_listen 30 = .ok (.iload 4, 2) := by decide +kernel
theorem dX5_listen_32 : decode cX5_listen 32 = .ok (.iaload, 1) := by decide +kernel
theorem dX5_listen_33 : decode cX5_listen 33 = .ok (.iload_n 3, 1) := by decide +kernel
theorem dX5_listen_34 : decode cX5_listen 34 = .ok (.invokevirtual 52, 3) := by decide +kernel
theorem dX5_listen_37 : decode cX5_listen 37 = .ok (.iload_n 3, 1) := by decide +kernel
theorem dX5_listen_38 : decode cX5_listen 38 = .ok (.aload_n 1, 1) := by decide +kernel
theorem dX5_listen_39 : decode cX5_listen 39 = .ok (.getfield 56, 3) := by decide +kernel
theorem dX5_listen_42 : decode cX5_listen 42 = .ok (.iload_n 2, 1) := by decide +kernel
theorem dX5_listen_43 : decode cX5_listen 43 = .ok (.bipush 6, 2) := by decide +kernel
theorem dX5_listen_45 : decode cX5_listen 45 = .ok (.imul, 1) := by decide +kernel
theorem dX5_listen_46 : decode cX5_listen 46 = .ok (.aload_n 1, 1) := by decide +kernel
theorem dX5_listen_47 : decode cX5_listen 47 = .ok (.getfield 59, 3) := by decide +kernel
theorem dX5_listen_50 : decode cX5_listen 50 = .ok (.iload 4, 2) := by decide +kernel
theorem dX5_listen_52 : decode cX5_listen 52 = .ok (.iaload, 1) := by decide +kernel
theorem dX5_listen_53 : decode cX5_listen 53 = .ok (.iadd, 1) := by decide +kernel
theorem dX5_listen_54 : decode cX5_listen 54 = .ok (.iaload, 1) := by decide +kernel
theorem dX5_listen_55 : decode cX5_listen 55 = .ok (.if_icmp .le 13, 3) := by decide +kernel
theorem dX5_listen_58 : decode cX5_listen 58 = .ok (.aload_n 0, 1) := by decide +kernel
theorem dX5_listen_59 : decode cX5_listen 59 = .ok (.getfield 23, 3) := by decide +kernel
theorem dX5_listen_62 : decode cX5_listen 62 = .ok (.iload 4, 2) := by decide +kernel
theorem dX5_listen_64 : decode cX5_listen 64 = .ok (.aaload, 1) := by decide +kernel
theorem dX5_listen_65 : decode cX5_listen 65 = .ok (.invokevirtual 62, 3) := by decide +kernel
theorem dX5_listen_68 : decode cX5_listen 68 = .ok (.iinc 4 1, 3) := by decide +kernel
theorem dX5_listen_71 : decode cX5_listen 71 = .ok (.goto (-68), 3) := by decide +kernel
theorem dX5_listen_74 : decode cX5_listen 74 = .ok (.return_, 1) := by decide +kernel
set_option maxRecDepth 20000 in
theorem ggX5_turnersReady_X4_lessLost : GoodIn wsX5_turnersReady wsX4_lessLost := goodIn_r _ [5, 6, 7, 4, 8] (by decide +kernel) (by decide +kernel)
set_option maxRecDepth 20000 in
theorem gX5_turnersReady_X4_lessLost : GoodIn wsX5_turnersReady (va_wsS RX5 65 yX4_lessLost wsX4_lessLost) := goodIn_app (goodIn_of _ (by decide +kernel)) ggX5_turnersReady_X4_lessLost
set_option maxRecDepth 20000 in
theorem ggX5_turnersReady_X1_turnsAt : GoodIn wsX5_turnersReady wsX1_turnsAt := goodIn_r _ [13, 14, 15, 16, 17, 18, 19, 20, 12, 21, 22, 23, 4, 24, 25, 26, 27, 28, 29, 7, 8, 30, 31, 32, 40, 41, 42, 43] (by decide +kernel) (by decide +kernel)
set_option maxRecDepth 20000 in
theorem gX5_turnersReady_X1_turnsAt : GoodIn wsX5_turnersReady (wsV RX5 71 RX1 yX1_turnsAt wsX1_turnsAt) := goodIn_app (goodIn_of _ (by decide +kernel)) ggX5_turnersReady_X1_turnsAt
theorem dX5_turnersReady_0 : decode cX5_turnersReady 0 = .ok (.iload_n 2, 1) := by decide +kernel
theorem dX5_turnersReady_1 : decode cX5_turnersReady 1 = .ok (.iload_n 3, 1) := by decide +kernel
theorem dX5_turnersReady_2 : decode cX5_turnersReady 2 = .ok (.invokestatic 65, 3) := by decide +kernel
theorem dX5_turnersReady_5 : decode cX5_turnersReady 5 = .ok (.istore 4, 2) := by decide +kernel
theorem dX5_turnersReady_7 : decode cX5_turnersReady 7 = .ok (.iconst 0, 1) := by decide +kernel
theorem dX5_turnersReady_8 : decode cX5_turnersReady 8 = .ok (.istore 5, 2) := by decide +kernel
theorem dX5_turnersReady_10 : decode cX5_turnersReady 10 = .ok (.iconst 0, 1) := by decide +kernel
theorem dX5_turnersReady_11 : decode cX5_turnersReady 11 = .ok (.istore 6, 2) := by decide +kernel
theorem dX5_turnersReady_13 : decode cX5_turnersReady 13 = .ok (.iload 6, 2) := by decide +kernel
theorem dX5_turnersReady_15 : decode cX5_turnersReady 15 = .ok (.iload_n 1, 1) := by decide +kernel
theorem dX5_turnersReady_16 : decode cX5_turnersReady 16 = .ok (.if_icmp .ge 34, 3) := by decide +kernel
theorem dX5_turnersReady_19 : decode cX5_turnersReady 19 = .ok (.aload_n 0, 1) := by decide +kernel
theorem dX5_turnersReady_20 : decode cX5_turnersReady 20 = .ok (.getfield 23, 3) := by decide +kernel
theorem dX5_turnersReady_23 : decode cX5_turnersReady 23 = .ok (.iload 6, 2) := by decide +kernel
theorem dX5_turnersReady_25 : decode cX5_turnersReady 25 = .ok (.aaload, 1) := by decide +kernel
theorem dX5_turnersReady_26 : decode cX5_turnersReady 26 = .ok (.iload_n 2, 1) := by decide +kernel
theorem dX5_turnersReady_27 : decode cX5_turnersReady 27 = .ok (.iload 4, 2) := by decide +kernel
theorem dX5_turnersReady_29 : decode cX5_turnersReady 29 = .ok (.invokevirtual 71, 3) := by decide +kernel
theorem dX5_turnersReady_32 : decode cX5_turnersReady 32 = .ok (.ifCond .eq 12, 3) := by decide +kernel
theorem dX5_turnersReady_35 : decode cX5_turnersReady 35 = .ok (.iload 5, 2) := by decide +kernel
theorem dX5_turnersReady_37 : decode cX5_turnersReady 37 = .ok (.iconst 1, 1) := by decide +kernel
theorem dX5_turnersReady_38 : decode cX5_turnersReady 38 = .ok (.iload 6, 2) := by decide +kernel
theorem dX5_turnersReady_40 : decode cX5_turnersReady 40 = .ok (.ishl, 1) := by decide +kernel
theorem dX5_turnersReady_41 : decode cX5_turnersReady 41 = .ok (.ior, 1) := by decide +kernel
theorem dX5_turnersReady_42 : decode cX5_turnersReady 42 = .ok (.istore 5, 2) := by decide +kernel
theorem dX5_turnersReady_44 : decode cX5_turnersReady 44 = .ok (.iinc 6 1, 3) := by decide +kernel
theorem dX5_turnersReady_47 : decode cX5_turnersReady 47 = .ok (.goto (-34), 3) := by decide +kernel
theorem dX5_turnersReady_50 : decode cX5_turnersReady 50 = .ok (.iload 5, 2) := by decide +kernel
theorem dX5_turnersReady_52 : decode cX5_turnersReady 52 = .ok (.ireturn, 1) := by decide +kernel
set_option maxRecDepth 20000 in
theorem ggX5_findWhistled_X5_listen : GoodIn wsX5_findWhistled wsX5_listen := goodIn_r _ [8, 3, 9, 10, 11, 12, 13, 14, 15, 16, 17, 18, 19, 20, 21, 22, 23, 24, 25, 26, 27, 28, 29, 30, 31, 32, 33, 34, 35, 36, 68, 69, 70, 71, 72, 73, 74, 75, 76, 77, 78, 61, 62, 63, 64, 65, 66, 67, 79, 80, 81, 82] (by decide +kernel) (by decide +kernel)
set_option maxRecDepth 20000 in
theorem gX5_findWhistled_X5_listen : GoodIn wsX5_findWhistled (wsV RX5 32 RX5 yX5_listen wsX5_listen) := goodIn_app (goodIn_of _ (by decide +kernel)) ggX5_findWhistled_X5_listen
set_option maxRecDepth 20000 in
theorem ggX5_findWhistled_X5_turnersReady : GoodIn wsX5_findWhistled wsX5_turnersReady := goodIn_r _ [40, 9, 41, 31, 25, 32, 27, 28, 29, 42, 43, 44, 17, 45, 22, 19, 20, 21, 46, 47, 48, 49, 50, 51, 52, 53, 54, 55, 56, 57, 58, 59, 60, 61, 62, 63, 64, 65, 66, 67, 79, 80, 81, 82] (by decide +kernel) (by decide +kernel)
set_option maxRecDepth 20000 in
theorem gX5_findWhistled_X5_turnersReady : GoodIn wsX5_findWhistled (wsV RX5 42 RX5 yX5_turnersReady wsX5_turnersReady) := goodIn_app (goodIn_of _ (by decide +kernel)) ggX5_findWhistled_X5_turnersReady
theorem dX5_findWhistled_0 : decode cX5_findWhistled 0 = .ok (.aload_n 0, 1) := by decide +kernel
theorem dX5_findWhistled_1 : decode cX5_findWhistled 1 = .ok (.aload_n 1, 1) := by decide +kernel
theorem dX5_findWhistled_2 : decode cX5_findWhistled 2 = .ok (.iload_n 2, 1) := by decide +kernel
theorem dX5_findWhistled_3 : decode cX5_findWhistled 3 = .ok (.iload_n 3, 1) := by decide +kernel
theorem dX5_findWhistled_4 : decode cX5_findWhistled 4 = .ok (.invokevirtual 32, 3) := by decide +kernel
theorem dX5_findWhistled_7 : decode cX5_findWhistled 7 = .ok (.aload_n 0, 1) := by decide +kernel
theorem dX5_findWhistled_8 : decode cX5_findWhistled 8 = .ok (.iconst 0, 1) := by decide +kernel
theorem dX5_findWhistled_9 : decode cX5_findWhistled 9 = .ok (.putfield 75, 3) := by decide +kernel
theorem dX5_findWhistled_12 : decode cX5_findWhistled 12 = .ok (.aload_n 0, 1) := by decide +kernel
theorem dX5_findWhistled_13 : decode cX5_findWhistled 13 = .ok (.iconst (-1), 1) := by decide +kernel
theorem dX5_findWhistled_14 : decode cX5_findWhistled 14 = .ok (.putfield 78, 3) := by decide +kernel
theorem dX5_findWhistled_17 : decode cX5_findWhistled 17 = .ok (.iconst 1, 1) := by decide +kernel
theorem dX5_findWhistled_18 : decode cX5_findWhistled 18 = .ok (.istore 5, 2) := by decide +kernel
theorem dX5_findWhistled_20 : decode cX5_findWhistled 20 = .ok (.iload 5, 2) := by decide +kernel
theorem dX5_findWhistled_22 : decode cX5_findWhistled 22 = .ok (.iconst 5, 1) := by decide +kernel
theorem dX5_findWhistled_23 : decode cX5_findWhistled 23 = .ok (.if_icmp .gt 82, 3) := by decide +kernel
theorem dX5_findWhistled_26 : decode cX5_findWhistled 26 = .ok (.iconst 1, 1) := by decide +kernel
theorem dX5_findWhistled_27 : decode cX5_findWhistled 27 = .ok (.iconst 2, 1) := by decide +kernel
theorem dX5_findWhistled_28 : decode cX5_findWhistled 28 = .ok (.iload 5, 2) := by decide +kernel
theorem dX5_findWhistled_30 : decode cX5_findWhistled 30 = .ok (.imul, 1) := by decide +kernel
theorem dX5_findWhistled_31 : decode cX5_findWhistled 31 = .ok (.ishl, 1) := by decide +kernel
theorem dX5_findWhistled_32 : decode cX5_findWhistled 32 = .ok (.istore 6, 2) := by decide +kernel
theorem dX5_findWhistled_34 : decode cX5_findWhistled 34 = .ok (.iload 6, 2) := by decide +kernel
theorem dX5_findWhistled_36 : decode cX5_findWhistled 36 = .ok (.istore 7, 2) := by decide +kernel
theorem dX5_findWhistled_38 : decode cX5_findWhistled 38 = .ok (.iload 7, 2) := by decide +kernel
theorem dX5_findWhistled_40 : decode cX5_findWhistled 40 = .ok (.iconst 2, 1) := by decide +kernel
theorem dX5_findWhistled_41 : decode cX5_findWhistled 41 = .ok (.iload 6, 2) := by decide +kernel
theorem dX5_findWhistled_43 : decode cX5_findWhistled 43 = .ok (.imul, 1) := by decide +kernel
theorem dX5_findWhistled_44 : decode cX5_findWhistled 44 = .ok (.if_icmp .ge 55, 3) := by decide +kernel
theorem dX5_findWhistled_47 : decode cX5_findWhistled 47 = .ok (.aload_n 0, 1) := by decide +kernel
theorem dX5_findWhistled_48 : decode cX5_findWhistled 48 = .ok (.aload_n 1, 1) := by decide +kernel
theorem dX5_findWhistled_49 : decode cX5_findWhistled 49 = .ok (.getfield 36, 3) := by decide +kernel
theorem dX5_findWhistled_52 : decode cX5_findWhistled 52 = .ok (.iload 7, 2) := by decide +kernel
theorem dX5_findWhistled_54 : decode cX5_findWhistled 54 = .ok (.iload_n 3, 1) := by decide +kernel
theorem dX5_findWhistled_55 : decode cX5_findWhistled 55 = .ok (.invokevirtual 42, 3) := by decide +kernel
theorem dX5_findWhistled_58 : decode cX5_findWhistled 58 = .ok (.iload 4, 2) := by decide +kernel
theorem dX5_findWhistled_60 : decode cX5_findWhistled 60 = .ok (.if_icmp .ne 33, 3) := by decide +kernel
theorem dX5_findWhistled_63 : decode cX5_findWhistled 63 = .ok (.aload_n 0, 1) := by decide +kernel
theorem dX5_findWhistled_64 : decode cX5_findWhistled 64 = .ok (.aload_n 0, 1) := by decide +kernel
theorem dX5_findWhistled_65 : decode cX5_findWhistled 65 = .ok (.getfield 75, 3) := by decide +kernel
theorem dX5_findWhistled_68 : decode cX5_findWhistled 68 = .ok (.ifCond .ne 8, 3) := by decide +kernel
theorem dX5_findWhistled_71 : decode cX5_findWhistled 71 = .ok (.iload 7, 2) := by decide +kernel
theorem dX5_findWhistled_73 : decode cX5_findWhistled 73 = .ok (.goto 7, 3) := by decide +kernel
theorem dX5_findWhistled_76 : decode cX5_findWhistled 76 = .ok (.aload_n 0, 1) := by decide +kernel
theorem dX5_findWhistled_77 : decode cX5_findWhistled 77 = .ok (.getfield 78, 3) := by decide +kernel
theorem dX5_findWhistled_80 : decode cX5_findWhistled 80 = .ok (.putfield 78, 3) := by decide +kernel
theorem dX5_findWhistled_83 : decode cX5_findWhistled 83 = .ok (.aload_n 0, 1) := by decide +kernel
theorem dX5_findWhistled_84 : decode cX5_findWhistled 84 = .ok (.dup, 1) := by decide +kernel
theorem dX5_findWhistled_85 : decode cX5_findWhistled 85 = .ok (.getfield 75, 3) := by decide +kernel
theorem dX5_findWhistled_88 : decode cX5_findWhistled 88 = .ok (.iconst 1, 1) := by decide +kernel
theorem dX5_findWhistled_89 : decode cX5_findWhistled 89 = .ok (.iadd, 1) := by decide +kernel
theorem dX5_findWhistled_90 : decode cX5_findWhistled 90 = .ok (.putfield 75, 3) := by decide +kernel
theorem dX5_findWhistled_93 : decode cX5_findWhistled 93 = .ok (.iinc 7 1, 3) := by decide +kernel
theorem dX5_findWhistled_96 : decode cX5_findWhistled 96 = .ok (.goto (-58), 3) := by decide +kernel
theorem dX5_findWhistled_99 : decode cX5_findWhistled 99 = .ok (.iinc 5 1, 3) := by decide +kernel
theorem dX5_findWhistled_102 : decode cX5_findWhistled 102 = .ok (.goto (-82), 3) := by decide +kernel
theorem dX5_findWhistled_105 : decode cX5_findWhistled 105 = .ok (.return_, 1) := by decide +kernel
set_option maxRecDepth 20000 in
theorem ggX5_isTakenFor_X0_greatestSharedWind : GoodIn wsX5_isTakenFor wsX0_greatestSharedWind := goodIn_r _ [7, 8, 9, 10, 11, 12, 13, 14, 15, 16, 62, 63, 64, 65, 66, 67, 68, 69, 70, 71, 72] (by decide +kernel) (by decide +kernel)
set_option maxRecDepth 20000 in
theorem gX5_isTakenFor_X0_greatestSharedWind : GoodIn wsX5_isTakenFor (wsV RX5 81 RX0 yX0_greatestSharedWind wsX0_greatestSharedWind) := goodIn_app (goodIn_of _ (by decide +kernel)) ggX5_isTakenFor_X0_greatestSharedWind
set_option maxRecDepth 20000 in
theorem ggX5_isTakenFor_X5_turnsBy : GoodIn wsX5_isTakenFor wsX5_turnsBy := goodIn_r _ [21, 22, 23, 24, 25, 26, 27, 28, 29, 30, 31, 32, 33, 34, 35, 36, 37, 38, 39, 40, 41, 42, 43, 44, 45, 46, 47, 48, 49, 50, 51, 52, 53, 54, 55, 56, 57, 58, 59, 60, 61, 73, 74, 75, 76, 77, 78, 79, 80, 81, 82, 83] (by decide +kernel) (by decide +kernel)
set_option maxRecDepth 20000 in
theorem gX5_isTakenFor_X5_turnsBy : GoodIn wsX5_isTakenFor (wsV RX5 84 RX5 yX5_turnsBy wsX5_turnsBy) := goodIn_app (goodIn_of _ (by decide +kernel)) ggX5_isTakenFor_X5_turnsBy
theorem dX5_isTakenFor_0 : decode cX5_isTakenFor 0 = .ok (.aload_n 1, 1) := by decide +kernel
theorem dX5_isTakenFor_1 : decode cX5_isTakenFor 1 = .ok (.iload_n 2, 1) := by decide +kernel
theorem dX5_isTakenFor_2 : decode cX5_isTakenFor 2 = .ok (.iload_n 3, 1) := by decide +kernel
theorem dX5_isTakenFor_3 : decode cX5_isTakenFor 3 = .ok (.invokevirtual 81, 3) := by decide +kernel
theorem dX5_isTakenFor_6 : decode cX5_isTakenFor 6 = .ok (.istore 4, 2) := by decide +kernel
theorem dX5_isTakenFor_8 : decode cX5_isTakenFor 8 = .ok (.aload_n 0, 1) := by decide +kernel
theorem dX5_isTakenFor_9 : decode cX5_isTakenFor 9 = .ok (.iload 4, 2) := by decide +kernel
theorem dX5_isTakenFor_11 : decode cX5_isTakenFor 11 = .ok (.aload_n 1, 1) := by decide +kernel
theorem dX5_isTakenFor_12 : decode cX5_isTakenFor 12 = .ok (.getfield 46, 3) := by decide +kernel
theorem dX5_isTakenFor_15 : decode cX5_isTakenFor 15 = .ok (.iload_n 3, 1) := by decide +kernel
theorem dX5_isTakenFor_16 : decode cX5_isTakenFor 16 = .ok (.iaload, 1) := by decide +kernel
theorem dX5_isTakenFor_17 : decode cX5_isTakenFor 17 = .ok (.aload_n 1, 1) := by decide +kernel
theorem dX5_isTakenFor_18 : decode cX5_isTakenFor 18 = .ok (.getfield 49, 3) := by decide +kernel
theorem dX5_isTakenFor_21 : decode cX5_isTakenFor 21 = .ok (.iload_n 3, 1) := by decide +kernel
theorem dX5_isTakenFor_22 : decode cX5_isTakenFor 22 = .ok (.iaload, 1) := by decide +kernel
theorem dX5_isTakenFor_23 : decode cX5_isTakenFor 23 = .ok (.aload_n 1, 1) := by decide +kernel
theorem dX5_isTakenFor_24 : decode cX5_isTakenFor 24 = .ok (.getfield 49, 3) := by decide +kernel
theorem dX5_isTakenFor_27 : decode cX5_isTakenFor 27 = .ok (.iload_n 2, 1) := by decide +kernel
theorem dX5_isTakenFor_28 : decode cX5_isTakenFor 28 = .ok (.iaload, 1) := by decide +kernel
theorem dX5_isTakenFor_29 : decode cX5_isTakenFor 29 = .ok (.invokevirtual 84, 3) := by decide +kernel
theorem dX5_isTakenFor_32 : decode cX5_isTakenFor 32 = .ok (.ireturn, 1) := by decide +kernel
set_option maxRecDepth 20000 in
theorem ggX5_turnsBy_X1_makeReady : GoodIn wsX5_turnsBy wsX1_makeReady := goodIn_r _ [6, 7, 8, 9, 10, 11, 12, 13, 14, 15, 16, 17, 18, 19, 20, 48, 49, 50, 51] (by decide +kernel) (by decide +kernel)
set_option maxRecDepth 20000 in
theorem gX5_turnsBy_X1_makeReady : GoodIn wsX5_turnsBy (wsV RX5 52 RX1 yX1_makeReady wsX1_makeReady) := goodIn_app (goodIn_of _ (by decide +kernel)) ggX5_turnsBy_X1_makeReady
set_option maxRecDepth 20000 in
theorem ggX5_turnsBy_X4_lessLost : GoodIn wsX5_turnsBy wsX4_lessLost := goodIn_r _ [20, 15, 16, 13, 17] (by decide +kernel) (by decide +kernel)
set_option maxRecDepth 20000 in
theorem gX5_turnsBy_X4_lessLost : GoodIn wsX5_turnsBy (va_wsS RX5 65 yX4_lessLost wsX4_lessLost) := goodIn_app (goodIn_of _ (by decide +kernel)) ggX5_turnsBy_X4_lessLost
set_option maxRecDepth 20000 in
theorem ggX5_turnsBy_X1_turnsAt : GoodIn wsX5_turnsBy wsX1_turnsAt := goodIn_r _ [25, 10, 7, 8, 9, 26, 27, 28, 5, 29, 30, 31, 13, 32, 33, 34, 35, 36, 37, 16, 17, 38, 39, 40, 48, 49, 50, 51] (by decide +kernel) (by decide +kernel)
set_option maxRecDepth 20000 in
theorem gX5_turnsBy_X1_turnsAt : GoodIn wsX5_turnsBy (wsV RX5 71 RX1 yX1_turnsAt wsX1_turnsAt) := goodIn_app (goodIn_of _ (by decide +kernel)) ggX5_turnsBy_X1_turnsAt
theorem dX5_turnsBy_0 : decode cX5_turnsBy 0 = .ok (.iconst 0, 1) := by decide +kernel
theorem dX5_turnsBy_1 : decode cX5_turnsBy 1 = .ok (.istore 5, 2) := by decide +kernel
theorem dX5_turnsBy_3 : decode cX5_turnsBy 3 = .ok (.iload 5, 2) := by decide +kernel
theorem dX5_turnsBy_5 : decode cX5_turnsBy 5 = .ok (.iload_n 1, 1) := by decide +kernel
theorem dX5_turnsBy_6 : decode cX5_turnsBy 6 = .ok (.if_icmp .gt 41, 3) := by decide +kernel
theorem dX5_turnsBy_9 : decode cX5_turnsBy 9 = .ok (.aload_n 0, 1) := by decide +kernel
theorem dX5_turnsBy_10 : decode cX5_turnsBy 10 = .ok (.getfield 28, 3) := by decide +kernel
theorem dX5_turnsBy_13 : decode cX5_turnsBy 13 = .ok (.iload_n 2, 1) := by decide +kernel
theorem dX5_turnsBy_14 : decode cX5_turnsBy 14 = .ok (.iload_n 3, 1) := by decide +kernel
theorem dX5_turnsBy_15 : decode cX5_turnsBy 15 = .ok (.iload 5, 2) := by decide +kernel
theorem dX5_turnsBy_17 : decode cX5_turnsBy 17 = .ok (.invokevirtual 52, 3) := by decide +kernel
theorem dX5_turnsBy_20 : decode cX5_turnsBy 20 = .ok (.aload_n 0, 1) := by decide +kernel
theorem dX5_turnsBy_21 : decode cX5_turnsBy 21 = .ok (.getfield 28, 3) := by decide +kernel
theorem dX5_turnsBy_24 : decode cX5_turnsBy 24 = .ok (.iload 4, 2) := by decide +kernel
theorem dX5_turnsBy_26 : decode cX5_turnsBy 26 = .ok (.iload 4, 2) := by decide +kernel
theorem dX5_turnsBy_28 : decode cX5_turnsBy 28 = .ok (.iload 5, 2) := by decide +kernel
theorem dX5_turnsBy_30 : decode cX5_turnsBy 30 = .ok (.invokestatic 65, 3) := by decide +kernel
theorem dX5_turnsBy_33 : decode cX5_turnsBy 33 = .ok (.invokevirtual 71, 3) := by decide +kernel
theorem dX5_turnsBy_36 : decode cX5_turnsBy 36 = .ok (.ifCond .eq 5, 3) := by decide +kernel
theorem dX5_turnsBy_39 : decode cX5_turnsBy 39 = .ok (.iconst 1, 1) := by decide +kernel
theorem dX5_turnsBy_40 : decode cX5_turnsBy 40 = .ok (.ireturn, 1) := by decide +kernel
theorem dX5_turnsBy_41 : decode cX5_turnsBy 41 = .ok (.iinc 5 1, 3) := by decide +kernel
theorem dX5_turnsBy_44 : decode cX5_turnsBy 44 = .ok (.goto (-41), 3) := by decide +kernel
theorem dX5_turnsBy_47 : decode cX5_turnsBy 47 = .ok (.iconst 0, 1) := by decide +kernel
theorem dX5_turnsBy_48 : decode cX5_turnsBy 48 = .ok (.ireturn, 1) := by decide +kernel
set_option maxRecDepth 20000 in
theorem ggX5_findClashes_X5_isTakenFor : GoodIn wsX5_findClashes wsX5_isTakenFor := goodIn_r _ [7, 8, 9, 10, 11, 12, 13, 14, 15, 16, 17, 18, 19, 20, 21, 22, 23, 24, 25, 26, 6, 27, 28, 29, 30, 31, 32, 33, 34, 35, 36, 37, 38, 39, 40, 41, 42, 43, 44, 45, 46, 47, 48, 49, 50, 51, 52, 53, 54, 55, 56, 57, 58, 59, 60, 61, 62, 63, 64, 65, 66, 67, 68, 69, 70, 71, 72, 73, 74, 75, 76, 77, 78, 79, 80, 81, 82, 83, 84, 85, 86, 87, 88, 89] (by decide +kernel) (by decide +kernel)
set_option maxRecDepth 20000 in
theorem gX5_findClashes_X5_isTakenFor : GoodIn wsX5_findClashes (wsV RX5 88 RX5 yX5_isTakenFor wsX5_isTakenFor) := goodIn_app (goodIn_of _ (by decide +kernel)) ggX5_findClashes_X5_isTakenFor
theorem dX5_findClashes_0 : decode cX5_findClashes 0 = .ok (.iconst 0, 1) := by decide +kernel
theorem dX5_findClashes_1 : decode cX5_findClashes 1 = .ok (.istore_n 2, 1) := by decide +kernel
theorem dX5_findClashes_2 : decode cX5_findClashes 2 = .ok (.iload_n 2, 1) := by decide +kernel
theorem dX5_findClashes_3 : decode cX5_findClashes 3 = .ok (.aload_n 1, 1) := by decide +kernel
theorem dX5_findClashes_4 : decode cX5_findClashes 4 = .ok (.getfield 36, 3) := by decide +kernel
theorem dX5_findClashes_7 : decode cX5_findClashes 7 = .ok (.if_icmp .ge 69, 3) := by decide +kernel
theorem dX5_findClashes_10 : decode cX5_findClashes 10 = .ok (.aload_n 0, 1) := by decide +kernel
theorem dX5_findClashes_11 : decode cX5_findClashes 11 = .ok (.getfield 15, 3) := by decide +kernel
theorem dX5_findClashes_14 : decode cX5_findClashes 14 = .ok (.iload_n 2, 1) := by decide +kernel
theorem dX5_findClashes_15 : decode cX5_findClashes 15 = .ok (.iconst 0, 1) := by decide +kernel
theorem dX5_findClashes_16 : decode cX5_findClashes 16 = .ok (.iastore, 1) := by decide +kernel
theorem dX5_findClashes_17 : decode cX5_findClashes 17 = .ok (.iconst 0, 1) := by decide +kernel
theorem dX5_findClashes_18 : decode cX5_findClashes 18 = .ok (.istore_n 3, 1) := by decide +kernel
theorem dX5_findClashes_19 : decode cX5_findClashes 19 = .ok (.iload_n 3, 1) := by decide +kernel
theorem dX5_findClashes_20 : decode cX5_findClashes 20 = .ok (.aload_n 1, 1) := by decide +kernel
theorem dX5_findClashes_21 : decode cX5_findClashes 21 = .ok (.getfield 36, 3) := by decide +kernel
theorem dX5_findClashes_24 : decode cX5_findClashes 24 = .ok (.if_icmp .ge 46, 3) := by decide +kernel
theorem dX5_findClashes_27 : decode cX5_findClashes 27 = .ok (.iload_n 2, 1) := by decide +kernel
theorem dX5_findClashes_28 : decode cX5_findClashes 28 = .ok (.iload_n 3, 1) := by decide +kernel
theorem dX5_findClashes_29 : decode cX5_findClashes 29 = .ok (.if_icmp .eq 35, 3) := by decide +kernel
theorem dX5_findClashes_32 : decode cX5_findClashes 32 = .ok (.aload_n 0, 1) := by decide +kernel
theorem dX5_findClashes_33 : decode cX5_findClashes 33 = .ok (.aload_n 1, 1) := by decide +kernel
theorem dX5_findClashes_34 : decode cX5_findClashes 34 = .ok (.iload_n 2, 1) := by decide +kernel
theorem dX5_findClashes_35 : decode cX5_findClashes 35 = .ok (.iload_n 3, 1) := by decide +kernel
theorem dX5_findClashes_36 : decode cX5_findClashes 36 = .ok (.invokevirtual 88, 3) := by decide +kernel
theorem dX5_findClashes_39 : decode cX5_findClashes 39 = .ok (.ifCond .ne 13, 3) := by decide +kernel
theorem dX5_findClashes_42 : decode cX5_findClashes 42 = .ok (.aload_n 0, 1) := by decide +kernel
theorem dX5_findClashes_43 : decode cX5_findClashes 43 = .ok (.aload_n 1, 1) := by decide +kernel
theorem dX5_findClashes_44 : decode cX5_findClashes 44 = .ok (.iload_n 3, 1) := by decide +kernel
theorem dX5_findClashes_45 : decode cX5_findClashes 45 = .ok (.iload_n 2, 1) := by decide +kernel
theorem dX5_findClashes_46 : decode cX5_findClashes 46 = .ok (.invokevirtual 88, 3) := by decide +kernel
theorem dX5_findClashes_49 : decode cX5_findClashes 49 = .ok (.ifCond .eq 15, 3) := by decide +kernel
theorem dX5_findClashes_52 : decode cX5_findClashes 52 = .ok (.aload_n 0, 1) := by decide +kernel
theorem dX5_findClashes_53 : decode cX5_findClashes 53 = .ok (.getfield 15, 3) := by decide +kernel
theorem dX5_findClashes_56 : decode cX5_findClashes 56 = .ok (.iload_n 2, 1) := by decide +kernel
theorem dX5_findClashes_57 : decode cX5_findClashes 57 = .ok (.dup2, 1) := by decide +kernel
theorem dX5_findClashes_58 : decode cX5_findClashes 58 = .ok (.iaload, 1) := by decide +kernel
theorem dX5_findClashes_59 : decode cX5_findClashes 59 = .ok (.iconst 1, 1) := by decide +kernel
theorem dX5_findClashes_60 : decode cX5_findClashes 60 = .ok (.iload_n 3, 1) := by decide +kernel
theorem dX5_findClashes_61 : decode cX5_findClashes 61 = .ok (.ishl, 1) := by decide +kernel
theorem dX5_findClashes_62 : decode cX5_findClashes 62 = .ok (.ior, 1) := by decide +kernel
theorem dX5_findClashes_63 : decode cX5_findClashes 63 = .ok (.iastore, 1) := by decide +kernel
theorem dX5_findClashes_64 : decode cX5_findClashes 64 = .ok (.iinc 3 1, 3) := by decide +kernel
theorem dX5_findClashes_67 : decode cX5_findClashes 67 = .ok (.goto (-48), 3) := by decide +kernel
theorem dX5_findClashes_70 : decode cX5_findClashes 70 = .ok (.iinc 2 1, 3) := by decide +kernel
theorem dX5_findClashes_73 : decode cX5_findClashes 73 = .ok (.goto (-71), 3) := by decide +kernel
theorem dX5_findClashes_76 : decode cX5_findClashes 76 = .ok (.return_, 1) := by decide +kernel
set_option maxRecDepth 20000 in
theorem ggX5_fewestInEachPair_J6_bitCount_0f7a4 : GoodIn wsX5_fewestInEachPair wsJ6_bitCount_0f7a4 := goodIn_r _ [4, 5, 6, 7] (by decide +kernel) (by decide +kernel)
set_option maxRecDepth 20000 in
theorem gX5_fewestInEachPair_J6_bitCount_0f7a4 : GoodIn wsX5_fewestInEachPair (va_wsS RX5 92 yJ6_bitCount_0f7a4 wsJ6_bitCount_0f7a4) := goodIn_app (goodIn_of _ (by decide +kernel)) ggX5_fewestInEachPair_J6_bitCount_0f7a4
set_option maxRecDepth 20000 in
theorem ggX5_fewestInEachPair_X5_isInEachPair : GoodIn wsX5_fewestInEachPair wsX5_isInEachPair := goodIn_r _ [12, 13, 14, 15, 16, 17, 18, 19, 20] (by decide +kernel) (by decide +kernel)
set_option maxRecDepth 20000 in
theorem gX5_fewestInEachPair_X5_isInEachPair : GoodIn wsX5_fewestInEachPair (wsV RX5 98 RX5 yX5_isInEachPair wsX5_isInEachPair) := goodIn_app (goodIn_of _ (by decide +kernel)) ggX5_fewestInEachPair_X5_isInEachPair
theorem dX5_fewestInEachPair_0 : decode cX5_fewestInEachPair 0 = .ok (.iconst 1, 1) := by decide +kernel
theorem dX5_fewestInEachPair_1 : decode cX5_fewestInEachPair 1 = .ok (.iload_n 1, 1) := by decide +kernel
theorem dX5_fewestInEachPair_2 : decode cX5_fewestInEachPair 2 = .ok (.ishl, 1) := by decide +kernel
theorem dX5_fewestInEachPair_3 : decode cX5_fewestInEachPair 3 = .ok (.iconst 1, 1) := by decide +kernel
theorem dX5_fewestInEachPair_4 : decode cX5_fewestInEachPair 4 = .ok (.isub, 1) := by decide +kernel
theorem dX5_fewestInEachPair_5 : decode cX5_fewestInEachPair 5 = .ok (.istore_n 2, 1) := by decide +kernel
theorem dX5_fewestInEachPair_6 : decode cX5_fewestInEachPair 6 = .ok (.iload_n 2, 1) := by decide +kernel
theorem dX5_fewestInEachPair_7 : decode cX5_fewestInEachPair 7 = .ok (.istore_n 3, 1) := by decide +kernel
theorem dX5_fewestInEachPair_8 : decode cX5_fewestInEachPair 8 = .ok (.iconst 0, 1) := by decide +kernel
theorem dX5_fewestInEachPair_9 : decode cX5_fewestInEachPair 9 = .ok (.istore 4, 2) := by decide +kernel
theorem dX5_fewestInEachPair_11 : decode cX5_fewestInEachPair 11 = .ok (.iload 4, 2) := by decide +kernel
theorem dX5_fewestInEachPair_13 : decode cX5_fewestInEachPair 13 = .ok (.iload_n 2, 1) := by decide +kernel
theorem dX5_fewestInEachPair_14 : decode cX5_fewestInEachPair 14 = .ok (.if_icmp .ge 34, 3) := by decide +kernel
theorem dX5_fewestInEachPair_17 : decode cX5_fewestInEachPair 17 = .ok (.iload 4, 2) := by decide +kernel
theorem dX5_fewestInEachPair_19 : decode cX5_fewestInEachPair 19 = .ok (.invokestatic 92, 3) := by decide +kernel
theorem dX5_fewestInEachPair_22 : decode cX5_fewestInEachPair 22 = .ok (.iload_n 3, 1) := by decide +kernel
theorem dX5_fewestInEachPair_23 : decode cX5_fewestInEachPair 23 = .ok (.invokestatic 92, 3) := by decide +kernel
theorem dX5_fewestInEachPair_26 : decode cX5_fewestInEachPair 26 = .ok (.if_icmp .ge 16, 3) := by decide +kernel
theorem dX5_fewestInEachPair_29 : decode cX5_fewestInEachPair 29 = .ok (.aload_n 0, 1) := by decide +kernel
theorem dX5_fewestInEachPair_30 : decode cX5_fewestInEachPair 30 = .ok (.iload 4, 2) := by decide +kernel
theorem dX5_fewestInEachPair_32 : decode cX5_fewestInEachPair 32 = .ok (.iload_n 1, 1) := by decide +kernel
theorem dX5_fewestInEachPair_33 : decode cX5_fewestInEachPair 33 = .ok (.invokevirtual 98, 3) := by decide +kernel
theorem dX5_fewestInEachPair_36 : decode cX5_fewestInEachPair 36 = .ok (.ifCond .eq 6, 3) := by decide +kernel
theorem dX5_fewestInEachPair_39 : decode cX5_fewestInEachPair 39 = .ok (.iload 4, 2) := by decide +kernel
theorem dX5_fewestInEachPair_41 : decode cX5_fewestInEachPair 41 = .ok (.istore_n 3, 1) := by decide +kernel
theorem dX5_fewestInEachPair_42 : decode cX5_fewestInEachPair 42 = .ok (.iinc 4 1, 3) := by decide +kernel
theorem dX5_fewestInEachPair_45 : decode cX5_fewestInEachPair 45 = .ok (.goto (-34), 3) := by decide +kernel
theorem dX5_fewestInEachPair_48 : decode cX5_fewestInEachPair 48 = .ok (.iload_n 3, 1) := by decide +kernel
theorem dX5_fewestInEachPair_49 : decode cX5_fewestInEachPair 49 = .ok (.ireturn, 1) := by decide +kernel
theorem dX5_isInEachPair_0 : decode cX5_isInEachPair 0 = .ok (.iconst 0, 1) := by decide +kernel
theorem dX5_isInEachPair_1 : decode cX5_isInEachPair 1 = .ok (.istore_n 3, 1) := by decide +kernel
theorem dX5_isInEachPair_2 : decode cX5_isInEachPair 2 = .ok (.iload_n 3, 1) := by decide +kernel
theorem dX5_isInEachPair_3 : decode cX5_isInEachPair 3 = .ok (.iload_n 2, 1) := by decide +kernel
theorem dX5_isInEachPair_4 : decode cX5_isInEachPair 4 = .ok (.if_icmp .ge 44, 3) := by decide +kernel
theorem dX5_isInEachPair_7 : decode cX5_isInEachPair 7 = .ok (.iload_n 1, 1) := by decide +kernel
theorem dX5_isInEachPair_8 : decode cX5_isInEachPair 8 = .ok (.iload_n 3, 1) := by decide +kernel
theorem dX5_isInEachPair_9 : decode cX5_isInEachPair 9 = .ok (.ishr, 1) := by decide +kernel
theorem dX5_isInEachPair_10 : decode cX5_isInEachPair 10 = .ok (.iconst 1, 1) := by decide +kernel
theorem dX5_isInEachPair_11 : decode cX5_isInEachPair 11 = .ok (.iand, 1) := by decide +kernel
theorem dX5_isInEachPair_12 : decode cX5_isInEachPair 12 = .ok (.ifCond .ne 7, 3) := by decide +kernel
theorem dX5_isInEachPair_15 : decode cX5_isInEachPair 15 = .ok (.iconst 1, 1) := by decide +kernel
theorem dX5_isInEachPair_16 : decode cX5_isInEachPair 16 = .ok (.goto 4, 3) := by decide +kernel
theorem dX5_isInEachPair_19 : decode cX5_isInEachPair 19 = .ok (.iconst 0, 1) := by decide +kernel
theorem dX5_isInEachPair_20 : decode cX5_isInEachPair 20 = .ok (.istore 4, 2) := by decide +kernel
theorem dX5_isInEachPair_22 : decode cX5_isInEachPair 22 = .ok (.iload 4, 2) := by decide +kernel
theorem dX5_isInEachPair_24 : decode cX5_isInEachPair 24 = .ok (.ifCond .eq 18, 3) := by decide +kernel
theorem dX5_isInEachPair_27 : decode cX5_isInEachPair 27 = .ok (.aload_n 0, 1) := by decide +kernel
theorem dX5_isInEachPair_28 : decode cX5_isInEachPair 28 = .ok (.getfield 15, 3) := by decide +kernel
theorem dX5_isInEachPair_31 : decode cX5_isInEachPair 31 = .ok (.iload_n 3, 1) := by decide +kernel
theorem dX5_isInEachPair_32 : decode cX5_isInEachPair 32 = .ok (.iaload, 1) := by decide +kernel
theorem dX5_isInEachPair_33 : decode cX5_isInEachPair 33 = .ok (.iload_n 1, 1) := by decide +kernel
theorem dX5_isInEachPair_34 : decode cX5_isInEachPair 34 = .ok (.iconst (-1), 1) := by decide +kernel
theorem dX5_isInEachPair_35 : decode cX5_isInEachPair 35 = .ok (.ixor, 1) := by decide +kernel
theorem dX5_isInEachPair_36 : decode cX5_isInEachPair 36 = .ok (.iand, 1) := by decide +kernel
theorem dX5_isInEachPair_37 : decode cX5_isInEachPair 37 = .ok (.ifCond .eq 5, 3) := by decide +kernel
theorem dX5_isInEachPair_40 : decode cX5_isInEachPair 40 = .ok (.iconst 0, 1) := by decide +kernel
theorem dX5_isInEachPair_41 : decode cX5_isInEachPair 41 = .ok (.ireturn, 1) := by decide +kernel
theorem dX5_isInEachPair_42 : decode cX5_isInEachPair 42 = .ok (.iinc 3 1, 3) := by decide +kernel
theorem dX5_isInEachPair_45 : decode cX5_isInEachPair 45 = .ok (.goto (-43), 3) := by decide +kernel
theorem dX5_isInEachPair_48 : decode cX5_isInEachPair 48 = .ok (.iconst 1, 1) := by decide +kernel
theorem dX5_isInEachPair_49 : decode cX5_isInEachPair 49 = .ok (.ireturn, 1) := by decide +kernel
set_option maxRecDepth 20000 in
theorem ggX5_standsAlone_X0_greatestSharedWind : GoodIn wsX5_standsAlone wsX0_greatestSharedWind := goodIn_r _ [8, 9, 10, 11, 12, 13, 14, 15, 16, 17, 63, 64, 65, 66, 67, 68, 69, 70, 71, 72, 73] (by decide +kernel) (by decide +kernel)
set_option maxRecDepth 20000 in
theorem gX5_standsAlone_X0_greatestSharedWind : GoodIn wsX5_standsAlone (wsV RX5 81 RX0 yX0_greatestSharedWind wsX0_greatestSharedWind) := goodIn_app (goodIn_of _ (by decide +kernel)) ggX5_standsAlone_X0_greatestSharedWind
set_option maxRecDepth 20000 in
theorem ggX5_standsAlone_X5_turnsBy : GoodIn wsX5_standsAlone wsX5_turnsBy := goodIn_r _ [22, 23, 24, 25, 26, 27, 28, 29, 30, 31, 32, 33, 34, 35, 36, 37, 38, 39, 40, 41, 42, 43, 44, 45, 46, 47, 48, 49, 50, 51, 52, 53, 54, 55, 56, 57, 58, 59, 60, 61, 62, 74, 75, 76, 77, 78, 79, 80, 81, 82, 83, 84] (by decide +kernel) (by decide +kernel)
set_option maxRecDepth 20000 in
theorem gX5_standsAlone_X5_turnsBy : GoodIn wsX5_standsAlone (wsV RX5 84 RX5 yX5_turnsBy wsX5_turnsBy) := goodIn_app (goodIn_of _ (by decide +kernel)) ggX5_standsAlone_X5_turnsBy
theorem dX5_standsAlone_0 : decode cX5_standsAlone 0 = .ok (.iconst 0, 1) := by decide +kernel
theorem dX5_standsAlone_1 : decode cX5_standsAlone 1 = .ok (.istore 4, 2) := by decide +kernel
theorem dX5_standsAlone_3 : decode cX5_standsAlone 3 = .ok (.iload 4, 2) := by decide +kernel
theorem dX5_standsAlone_5 : decode cX5_standsAlone 5 = .ok (.aload_n 1, 1) := by decide +kernel
theorem dX5_standsAlone_6 : decode cX5_standsAlone 6 = .ok (.getfield 36, 3) := by decide +kernel
theorem dX5_standsAlone_9 : decode cX5_standsAlone 9 = .ok (.if_icmp .ge 78, 3) := by decide +kernel
theorem dX5_standsAlone_12 : decode cX5_standsAlone 12 = .ok (.iload 4, 2) := by decide +kernel
theorem dX5_standsAlone_14 : decode cX5_standsAlone 14 = .ok (.iload_n 2, 1) := by decide +kernel
theorem dX5_standsAlone_15 : decode cX5_standsAlone 15 = .ok (.if_icmp .ne 6, 3) := by decide +kernel
theorem dX5_standsAlone_18 : decode cX5_standsAlone 18 = .ok (.goto 63, 3) := by decide +kernel
theorem dX5_standsAlone_21 : decode cX5_standsAlone 21 = .ok (.aload_n 1, 1) := by decide +kernel
theorem dX5_standsAlone_22 : decode cX5_standsAlone 22 = .ok (.iload_n 2, 1) := by decide +kernel
theorem dX5_standsAlone_23 : decode cX5_standsAlone 23 = .ok (.iload 4, 2) := by decide +kernel
theorem dX5_standsAlone_25 : decode cX5_standsAlone 25 = .ok (.invokevirtual 81, 3) := by decide +kernel
theorem dX5_standsAlone_28 : decode cX5_standsAlone 28 = .ok (.istore 5, 2) := by decide +kernel
theorem dX5_standsAlone_30 : decode cX5_standsAlone 30 = .ok (.aload_n 0, 1) := by decide +kernel
theorem dX5_standsAlone_31 : decode cX5_standsAlone 31 = .ok (.iload 5, 2) := by decide +kernel
theorem dX5_standsAlone_33 : decode cX5_standsAlone 33 = .ok (.aload_n 1, 1) := by decide +kernel
theorem dX5_standsAlone_34 : decode cX5_standsAlone 34 = .ok (.getfield 46, 3) := by decide +kernel
theorem dX5_standsAlone_37 : decode cX5_standsAlone 37 = .ok (.iload 4, 2) := by decide +kernel
theorem dX5_standsAlone_39 : decode cX5_standsAlone 39 = .ok (.iaload, 1) := by decide +kernel
theorem dX5_standsAlone_40 : decode cX5_standsAlone 40 = .ok (.aload_n 1, 1) := by decide +kernel
theorem dX5_standsAlone_41 : decode cX5_standsAlone 41 = .ok (.getfield 49, 3) := by decide +kernel
theorem dX5_standsAlone_44 : decode cX5_standsAlone 44 = .ok (.iload 4, 2) := by decide +kernel
theorem dX5_standsAlone_46 : decode cX5_standsAlone 46 = .ok (.iaload, 1) := by decide +kernel
theorem dX5_standsAlone_47 : decode cX5_standsAlone 47 = .ok (.iload_n 3, 1) := by decide +kernel
theorem dX5_standsAlone_48 : decode cX5_standsAlone 48 = .ok (.invokevirtual 84, 3) := by decide +kernel
theorem dX5_standsAlone_51 : decode cX5_standsAlone 51 = .ok (.ifCond .eq 5, 3) := by decide +kernel
theorem dX5_standsAlone_54 : decode cX5_standsAlone 54 = .ok (.iconst 0, 1) := by decide +kernel
theorem dX5_standsAlone_55 : decode cX5_standsAlone 55 = .ok (.ireturn, 1) := by decide +kernel
theorem dX5_standsAlone_56 : decode cX5_standsAlone 56 = .ok (.aload_n 0, 1) := by decide +kernel
theorem dX5_standsAlone_57 : decode cX5_standsAlone 57 = .ok (.iload 5, 2) := by decide +kernel
theorem dX5_standsAlone_59 : decode cX5_standsAlone 59 = .ok (.aload_n 1, 1) := by decide +kernel
theorem dX5_standsAlone_60 : decode cX5_standsAlone 60 = .ok (.getfield 46, 3) := by decide +kernel
theorem dX5_standsAlone_63 : decode cX5_standsAlone 63 = .ok (.iload_n 2, 1) := by decide +kernel
theorem dX5_standsAlone_64 : decode cX5_standsAlone 64 = .ok (.iaload, 1) := by decide +kernel
theorem dX5_standsAlone_65 : decode cX5_standsAlone 65 = .ok (.iload_n 3, 1) := by decide +kernel
theorem dX5_standsAlone_66 : decode cX5_standsAlone 66 = .ok (.aload_n 1, 1) := by decide +kernel
theorem dX5_standsAlone_67 : decode cX5_standsAlone 67 = .ok (.getfield 49, 3) := by decide +kernel
theorem dX5_standsAlone_70 : decode cX5_standsAlone 70 = .ok (.iload 4, 2) := by decide +kernel
theorem dX5_standsAlone_72 : decode cX5_standsAlone 72 = .ok (.iaload, 1) := by decide +kernel
theorem dX5_standsAlone_73 : decode cX5_standsAlone 73 = .ok (.invokevirtual 84, 3) := by decide +kernel
theorem dX5_standsAlone_76 : decode cX5_standsAlone 76 = .ok (.ifCond .eq 5, 3) := by decide +kernel
theorem dX5_standsAlone_79 : decode cX5_standsAlone 79 = .ok (.iconst 0, 1) := by decide +kernel
theorem dX5_standsAlone_80 : decode cX5_standsAlone 80 = .ok (.ireturn, 1) := by decide +kernel
theorem dX5_standsAlone_81 : decode cX5_standsAlone 81 = .ok (.iinc 4 1, 3) := by decide +kernel
theorem dX5_standsAlone_84 : decode cX5_standsAlone 84 = .ok (.goto (-81), 3) := by decide +kernel
theorem dX5_standsAlone_87 : decode cX5_standsAlone 87 = .ok (.iconst 1, 1) := by decide +kernel
theorem dX5_standsAlone_88 : decode cX5_standsAlone 88 = .ok (.ireturn, 1) := by decide +kernel
set_option maxRecDepth 20000 in
theorem ggX5_leastNewEnd_X4_notes : GoodIn wsX5_leastNewEnd wsX4_notes := goodIn_r _ [5] (by decide +kernel) (by decide +kernel)
set_option maxRecDepth 20000 in
theorem gX5_leastNewEnd_X4_notes : GoodIn wsX5_leastNewEnd (va_wsS RX5 101 yX4_notes wsX4_notes) := goodIn_app (goodIn_of _ (by decide +kernel)) ggX5_leastNewEnd_X4_notes
set_option maxRecDepth 20000 in
theorem ggX5_leastNewEnd_X5_standsAlone : GoodIn wsX5_leastNewEnd wsX5_standsAlone := goodIn_r _ [10, 11, 12, 1, 13, 14, 15, 16, 17, 18, 19, 20, 21, 22, 23, 24, 25, 26, 27, 28, 29, 9, 30, 31, 32, 33, 34, 35, 36, 37, 38, 39, 40, 41, 42, 4, 43, 44, 3, 5, 45, 46, 47, 48, 49, 50, 51, 52, 53, 54, 55, 56, 57, 58, 59, 60, 61, 62, 63, 64, 65, 66, 67, 68, 69, 70, 71, 72, 73, 74, 75, 76, 77, 78, 79, 80, 81, 82, 83, 84, 85, 86, 87, 88, 89] (by decide +kernel) (by decide +kernel)
set_option maxRecDepth 20000 in
theorem gX5_leastNewEnd_X5_standsAlone : GoodIn wsX5_leastNewEnd (wsV RX5 104 RX5 yX5_standsAlone wsX5_standsAlone) := goodIn_app (goodIn_of _ (by decide +kernel)) ggX5_leastNewEnd_X5_standsAlone
theorem dX5_leastNewEnd_0 : decode cX5_leastNewEnd 0 = .ok (.aload_n 1, 1) := by decide +kernel
theorem dX5_leastNewEnd_1 : decode cX5_leastNewEnd 1 = .ok (.getfield 49, 3) := by decide +kernel
theorem dX5_leastNewEnd_4 : decode cX5_leastNewEnd 4 = .ok (.iload_n 2, 1) := by decide +kernel
theorem dX5_leastNewEnd_5 : decode cX5_leastNewEnd 5 = .ok (.iaload, 1) := by decide +kernel
theorem dX5_leastNewEnd_6 : decode cX5_leastNewEnd 6 = .ok (.istore_n 3, 1) := by decide +kernel
theorem dX5_leastNewEnd_7 : decode cX5_leastNewEnd 7 = .ok (.iconst 2, 1) := by decide +kernel
theorem dX5_leastNewEnd_8 : decode cX5_leastNewEnd 8 = .ok (.iload_n 3, 1) := by decide +kernel
theorem dX5_leastNewEnd_9 : decode cX5_leastNewEnd 9 = .ok (.invokestatic 101, 3) := by decide +kernel
theorem dX5_leastNewEnd_12 : decode cX5_leastNewEnd 12 = .ok (.iconst 1, 1) := by decide +kernel
theorem dX5_leastNewEnd_13 : decode cX5_leastNewEnd 13 = .ok (.isub, 1) := by decide +kernel
theorem dX5_leastNewEnd_14 : decode cX5_leastNewEnd 14 = .ok (.imul, 1) := by decide +kernel
theorem dX5_leastNewEnd_15 : decode cX5_leastNewEnd 15 = .ok (.istore 4, 2) := by decide +kernel
theorem dX5_leastNewEnd_17 : decode cX5_leastNewEnd 17 = .ok (.iload_n 3, 1) := by decide +kernel
theorem dX5_leastNewEnd_18 : decode cX5_leastNewEnd 18 = .ok (.iload 4, 2) := by decide +kernel
theorem dX5_leastNewEnd_20 : decode cX5_leastNewEnd 20 = .ok (.ishr, 1) := by decide +kernel
theorem dX5_leastNewEnd_21 : decode cX5_leastNewEnd 21 = .ok (.iload 4, 2) := by decide +kernel
theorem dX5_leastNewEnd_23 : decode cX5_leastNewEnd 23 = .ok (.ishl, 1) := by decide +kernel
theorem dX5_leastNewEnd_24 : decode cX5_leastNewEnd 24 = .ok (.istore 5, 2) := by decide +kernel
theorem dX5_leastNewEnd_26 : decode cX5_leastNewEnd 26 = .ok (.iconst 1, 1) := by decide +kernel
theorem dX5_leastNewEnd_27 : decode cX5_leastNewEnd 27 = .ok (.iload 4, 2) := by decide +kernel
theorem dX5_leastNewEnd_29 : decode cX5_leastNewEnd 29 = .ok (.ishl, 1) := by decide +kernel
theorem dX5_leastNewEnd_30 : decode cX5_leastNewEnd 30 = .ok (.istore 6, 2) := by decide +kernel
theorem dX5_leastNewEnd_32 : decode cX5_leastNewEnd 32 = .ok (.iconst 0, 1) := by decide +kernel
theorem dX5_leastNewEnd_33 : decode cX5_leastNewEnd 33 = .ok (.istore 7, 2) := by decide +kernel
theorem dX5_leastNewEnd_35 : decode cX5_leastNewEnd 35 = .ok (.iload 7, 2) := by decide +kernel
theorem dX5_leastNewEnd_37 : decode cX5_leastNewEnd 37 = .ok (.iload 6, 2) := by decide +kernel
theorem dX5_leastNewEnd_39 : decode cX5_leastNewEnd 39 = .ok (.if_icmp .ge 29, 3) := by decide +kernel
theorem dX5_leastNewEnd_42 : decode cX5_leastNewEnd 42 = .ok (.aload_n 0, 1) := by decide +kernel
theorem dX5_leastNewEnd_43 : decode cX5_leastNewEnd 43 = .ok (.aload_n 1, 1) := by decide +kernel
theorem dX5_leastNewEnd_44 : decode cX5_leastNewEnd 44 = .ok (.iload_n 2, 1) := by decide +kernel
theorem dX5_leastNewEnd_45 : decode cX5_leastNewEnd 45 = .ok (.iload 5, 2) := by decide +kernel
theorem dX5_leastNewEnd_47 : decode cX5_leastNewEnd 47 = .ok (.iload 7, 2) := by decide +kernel
theorem dX5_leastNewEnd_49 : decode cX5_leastNewEnd 49 = .ok (.iadd, 1) := by decide +kernel
theorem dX5_leastNewEnd_50 : decode cX5_leastNewEnd 50 = .ok (.invokevirtual 104, 3) := by decide +kernel
theorem dX5_leastNewEnd_53 : decode cX5_leastNewEnd 53 = .ok (.ifCond .eq 9, 3) := by decide +kernel
theorem dX5_leastNewEnd_56 : decode cX5_leastNewEnd 56 = .ok (.iload 5, 2) := by decide +kernel
theorem dX5_leastNewEnd_58 : decode cX5_leastNewEnd 58 = .ok (.iload 7, 2) := by decide +kernel
theorem dX5_leastNewEnd_60 : decode cX5_leastNewEnd 60 = .ok (.iadd, 1) := by decide +kernel
theorem dX5_leastNewEnd_61 : decode cX5_leastNewEnd 61 = .ok (.ireturn, 1) := by decide +kernel
theorem dX5_leastNewEnd_62 : decode cX5_leastNewEnd 62 = .ok (.iinc 7 1, 3) := by decide +kernel
theorem dX5_leastNewEnd_65 : decode cX5_leastNewEnd 65 = .ok (.goto (-30), 3) := by decide +kernel
theorem dX5_leastNewEnd_68 : decode cX5_leastNewEnd 68 = .ok (.iconst (-1), 1) := by decide +kernel
theorem dX5_leastNewEnd_69 : decode cX5_leastNewEnd 69 = .ok (.ireturn, 1) := by decide +kernel
set_option maxRecDepth 20000 in
theorem ggX5_sendWord_X5_findCallable : GoodIn wsX5_sendWord wsX5_findCallable := goodIn_r _ [7, 1, 8, 9, 10, 11, 12, 13, 6, 14, 15, 16, 17, 18, 19, 20, 21, 22, 23, 24, 25, 26, 27, 28, 29, 30, 31, 32, 33, 34, 35, 36, 37, 38, 39, 40, 41, 42, 43, 44, 45, 46, 47, 48, 49, 50, 51, 52, 53, 54, 55, 56, 57, 58, 59, 60, 61, 62, 63, 64, 70, 71, 72, 73, 74, 75, 76, 77, 78, 79, 80, 81, 82, 83, 84, 85, 86, 87, 88, 89, 90, 91] (by decide +kernel) (by decide +kernel)
set_option maxRecDepth 20000 in
theorem gX5_sendWord_X5_findCallable : GoodIn wsX5_sendWord (wsV RX5 107 RX5 yX5_findCallable wsX5_findCallable) := goodIn_app (goodIn_of _ (by decide +kernel)) ggX5_sendWord_X5_findCallable
set_option maxRecDepth 20000 in
theorem ggX5_sendWord_X5_passOn : GoodIn wsX5_sendWord wsX5_passOn := goodIn_r _ [68, 1, 8, 2, 10, 69, 32, 29, 33, 70, 71, 72, 73, 74, 75, 76, 77, 78, 79, 80, 81, 82, 83, 84, 85, 86, 87] (by decide +kernel) (by decide +kernel)
set_option maxRecDepth 20000 in
theorem gX5_sendWord_X5_passOn : GoodIn wsX5_sendWord (wsV RX5 111 RX5 yX5_passOn wsX5_passOn) := goodIn_app (goodIn_of _ (by decide +kernel)) ggX5_sendWord_X5_passOn
theorem dX5_sendWord_0 : decode cX5_sendWord 0 = .ok (.aload_n 0, 1) := by decide +kernel
theorem dX5_sendWord_1 : decode cX5_sendWord 1 = .ok (.aload_n 1, 1) := by decide +kernel
theorem dX5_sendWord_2 : decode cX5_sendWord 2 = .ok (.iload_n 3, 1) := by decide +kernel
theorem dX5_sendWord_3 : decode cX5_sendWord 3 = .ok (.invokevirtual 107, 3) := by decide +kernel
theorem dX5_sendWord_6 : decode cX5_sendWord 6 = .ok (.iconst 0, 1) := by decide +kernel
theorem dX5_sendWord_7 : decode cX5_sendWord 7 = .ok (.istore 4, 2) := by decide +kernel
theorem dX5_sendWord_9 : decode cX5_sendWord 9 = .ok (.iload 4, 2) := by decide +kernel
theorem dX5_sendWord_11 : decode cX5_sendWord 11 = .ok (.aload_n 1, 1) := by decide +kernel
theorem dX5_sendWord_12 : decode cX5_sendWord 12 = .ok (.getfield 36, 3) := by decide +kernel
theorem dX5_sendWord_15 : decode cX5_sendWord 15 = .ok (.if_icmp .ge 27, 3) := by decide +kernel
theorem dX5_sendWord_18 : decode cX5_sendWord 18 = .ok (.aload_n 0, 1) := by decide +kernel
theorem dX5_sendWord_19 : decode cX5_sendWord 19 = .ok (.getfield 18, 3) := by decide +kernel
theorem dX5_sendWord_22 : decode cX5_sendWord 22 = .ok (.iload 4, 2) := by decide +kernel
theorem dX5_sendWord_24 : decode cX5_sendWord 24 = .ok (.iload 4, 2) := by decide +kernel
theorem dX5_sendWord_26 : decode cX5_sendWord 26 = .ok (.iload_n 2, 1) := by decide +kernel
theorem dX5_sendWord_27 : decode cX5_sendWord 27 = .ok (.if_icmp .ne 7, 3) := by decide +kernel
theorem dX5_sendWord_30 : decode cX5_sendWord 30 = .ok (.iconst 0, 1) := by decide +kernel
theorem dX5_sendWord_31 : decode cX5_sendWord 31 = .ok (.goto 4, 3) := by decide +kernel
theorem dX5_sendWord_34 : decode cX5_sendWord 34 = .ok (.iconst (-1), 1) := by decide +kernel
theorem dX5_sendWord_35 : decode cX5_sendWord 35 = .ok (.iastore, 1) := by decide +kernel
theorem dX5_sendWord_36 : decode cX5_sendWord 36 = .ok (.iinc 4 1, 3) := by decide +kernel
theorem dX5_sendWord_39 : decode cX5_sendWord 39 = .ok (.goto (-30), 3) := by decide +kernel
theorem dX5_sendWord_42 : decode cX5_sendWord 42 = .ok (.iconst 0, 1) := by decide +kernel
theorem dX5_sendWord_43 : decode cX5_sendWord 43 = .ok (.istore 4, 2) := by decide +kernel
theorem dX5_sendWord_45 : decode cX5_sendWord 45 = .ok (.iload 4, 2) := by decide +kernel
theorem dX5_sendWord_47 : decode cX5_sendWord 47 = .ok (.aload_n 1, 1) := by decide +kernel
theorem dX5_sendWord_48 : decode cX5_sendWord 48 = .ok (.getfield 36, 3) := by decide +kernel
theorem dX5_sendWord_51 : decode cX5_sendWord 51 = .ok (.if_icmp .ge 45, 3) := by decide +kernel
theorem dX5_sendWord_54 : decode cX5_sendWord 54 = .ok (.iconst 0, 1) := by decide +kernel
theorem dX5_sendWord_55 : decode cX5_sendWord 55 = .ok (.istore 5, 2) := by decide +kernel
theorem dX5_sendWord_57 : decode cX5_sendWord 57 = .ok (.iload 5, 2) := by decide +kernel
theorem dX5_sendWord_59 : decode cX5_sendWord 59 = .ok (.aload_n 1, 1) := by decide +kernel
theorem dX5_sendWord_60 : decode cX5_sendWord 60 = .ok (.getfield 36, 3) := by decide +kernel
theorem dX5_sendWord_63 : decode cX5_sendWord 63 = .ok (.if_icmp .ge 27, 3) := by decide +kernel
theorem dX5_sendWord_66 : decode cX5_sendWord 66 = .ok (.aload_n 0, 1) := by decide +kernel
theorem dX5_sendWord_67 : decode cX5_sendWord 67 = .ok (.getfield 18, 3) := by decide +kernel
theorem dX5_sendWord_70 : decode cX5_sendWord 70 = .ok (.iload 5, 2) := by decide +kernel
theorem dX5_sendWord_72 : decode cX5_sendWord 72 = .ok (.iaload, 1) := by decide +kernel
theorem dX5_sendWord_73 : decode cX5_sendWord 73 = .ok (.iconst (-1), 1) := by decide +kernel
theorem dX5_sendWord_74 : decode cX5_sendWord 74 = .ok (.if_icmp .eq 10, 3) := by decide +kernel
theorem dX5_sendWord_77 : decode cX5_sendWord 77 = .ok (.aload_n 0, 1) := by decide +kernel
theorem dX5_sendWord_78 : decode cX5_sendWord 78 = .ok (.aload_n 1, 1) := by decide +kernel
theorem dX5_sendWord_79 : decode cX5_sendWord 79 = .ok (.iload 5, 2) := by decide +kernel
theorem dX5_sendWord_81 : decode cX5_sendWord 81 = .ok (.invokevirtual 111, 3) := by decide +kernel
theorem dX5_sendWord_84 : decode cX5_sendWord 84 = .ok (.iinc 5 1, 3) := by decide +kernel
theorem dX5_sendWord_87 : decode cX5_sendWord 87 = .ok (.goto (-30), 3) := by decide +kernel
theorem dX5_sendWord_90 : decode cX5_sendWord 90 = .ok (.iinc 4 1, 3) := by decide +kernel
theorem dX5_sendWord_93 : decode cX5_sendWord 93 = .ok (.goto (-48), 3) := by decide +kernel
theorem dX5_sendWord_96 : decode cX5_sendWord 96 = .ok (.return_, 1) := by decide +kernel
set_option maxRecDepth 20000 in
theorem ggX5_findCallable_X5_listen : GoodIn wsX5_findCallable wsX5_listen := goodIn_r _ [9, 1, 10, 11, 4, 12, 3, 13, 14, 15, 16, 17, 18, 19, 20, 21, 22, 23, 24, 25, 26, 27, 28, 29, 30, 31, 32, 33, 34, 35, 60, 61, 62, 63, 64, 65, 66, 67, 68, 69, 70, 71, 72, 73, 74, 75, 76, 77, 78, 79, 80, 81] (by decide +kernel) (by decide +kernel)
set_option maxRecDepth 20000 in
theorem gX5_findCallable_X5_listen : GoodIn wsX5_findCallable (wsV RX5 32 RX5 yX5_listen wsX5_listen) := goodIn_app (goodIn_of _ (by decide +kernel)) ggX5_findCallable_X5_listen
set_option maxRecDepth 20000 in
theorem ggX5_findCallable_X5_turnersReady : GoodIn wsX5_findCallable wsX5_turnersReady := goodIn_r _ [39, 10, 40, 30, 24, 31, 26, 27, 28, 41, 42, 43, 16, 44, 21, 18, 19, 20, 45, 46, 47, 48, 49, 50, 51, 52, 53, 54, 55, 56, 57, 58, 59, 71, 72, 73, 74, 75, 76, 77, 78, 79, 80, 81] (by decide +kernel) (by decide +kernel)
set_option maxRecDepth 20000 in
theorem gX5_findCallable_X5_turnersReady : GoodIn wsX5_findCallable (wsV RX5 42 RX5 yX5_turnersReady wsX5_turnersReady) := goodIn_app (goodIn_of _ (by decide +kernel)) ggX5_findCallable_X5_turnersReady
theorem dX5_findCallable_0 : decode cX5_findCallable 0 = .ok (.iconst 0, 1) := by decide +kernel
theorem dX5_findCallable_1 : decode cX5_findCallable 1 = .ok (.istore_n 3, 1) := by decide +kernel
theorem dX5_findCallable_2 : decode cX5_findCallable 2 = .ok (.iload_n 3, 1) := by decide +kernel
theorem dX5_findCallable_3 : decode cX5_findCallable 3 = .ok (.aload_n 1, 1) := by decide +kernel
theorem dX5_findCallable_4 : decode cX5_findCallable 4 = .ok (.getfield 36, 3) := by decide +kernel
theorem dX5_findCallable_7 : decode cX5_findCallable 7 = .ok (.if_icmp .ge 98, 3) := by decide +kernel
theorem dX5_findCallable_10 : decode cX5_findCallable 10 = .ok (.aload_n 0, 1) := by decide +kernel
theorem dX5_findCallable_11 : decode cX5_findCallable 11 = .ok (.getfield 9, 3) := by decide +kernel
theorem dX5_findCallable_14 : decode cX5_findCallable 14 = .ok (.iload_n 3, 1) := by decide +kernel
theorem dX5_findCallable_15 : decode cX5_findCallable 15 = .ok (.iconst 0, 1) := by decide +kernel
theorem dX5_findCallable_16 : decode cX5_findCallable 16 = .ok (.iastore, 1) := by decide +kernel
theorem dX5_findCallable_17 : decode cX5_findCallable 17 = .ok (.aload_n 0, 1) := by decide +kernel
theorem dX5_findCallable_18 : decode cX5_findCallable 18 = .ok (.aload_n 1, 1) := by decide +kernel
theorem dX5_findCallable_19 : decode cX5_findCallable 19 = .ok (.aload_n 1, 1) := by decide +kernel
theorem dX5_findCallable_20 : decode cX5_findCallable 20 = .ok (.getfield 59, 3) := by decide +kernel
theorem dX5_findCallable_23 : decode cX5_findCallable 23 = .ok (.iload_n 3, 1) := by decide +kernel
theorem dX5_findCallable_24 : decode cX5_findCallable 24 = .ok (.iaload, 1) := by decide +kernel
theorem dX5_findCallable_25 : decode cX5_findCallable 25 = .ok (.iload_n 2, 1) := by decide +kernel
theorem dX5_findCallable_26 : decode cX5_findCallable 26 = .ok (.invokevirtual 32, 3) := by decide +kernel
theorem dX5_findCallable_29 : decode cX5_findCallable 29 = .ok (.iconst 0, 1) := by decide +kernel
theorem dX5_findCallable_30 : decode cX5_findCallable 30 = .ok (.istore 4, 2) := by decide +kernel
theorem dX5_findCallable_32 : decode cX5_findCallable 32 = .ok (.iload 4, 2) := by decide +kernel
theorem dX5_findCallable_34 : decode cX5_findCallable 34 = .ok (.aload_n 1, 1) := by decide +kernel
theorem dX5_findCallable_35 : decode cX5_findCallable 35 = .ok (.getfield 36, 3) := by decide +kernel
theorem dX5_findCallable_38 : decode cX5_findCallable 38 = .ok (.if_icmp .ge 61, 3) := by decide +kernel
theorem dX5_findCallable_41 : decode cX5_findCallable 41 = .ok (.aload_n 0, 1) := by decide +kernel
theorem dX5_findCallable_42 : decode cX5_findCallable 42 = .ok (.aload_n 1, 1) := by decide +kernel
theorem dX5_findCallable_43 : decode cX5_findCallable 43 = .ok (.getfield 36, 3) := by decide +kernel
theorem dX5_findCallable_46 : decode cX5_findCallable 46 = .ok (.aload_n 1, 1) := by decide +kernel
theorem dX5_findCallable_47 : decode cX5_findCallable 47 = .ok (.getfield 49, 3) := by decide +kernel
theorem dX5_findCallable_50 : decode cX5_findCallable 50 = .ok (.iload 4, 2) := by decide +kernel
theorem dX5_findCallable_52 : decode cX5_findCallable 52 = .ok (.iaload, 1) := by decide +kernel
theorem dX5_findCallable_53 : decode cX5_findCallable 53 = .ok (.iload_n 2, 1) := by decide +kernel
theorem dX5_findCallable_54 : decode cX5_findCallable 54 = .ok (.invokevirtual 42, 3) := by decide +kernel
theorem dX5_findCallable_57 : decode cX5_findCallable 57 = .ok (.istore 5, 2) := by decide +kernel
theorem dX5_findCallable_59 : decode cX5_findCallable 59 = .ok (.iload 4, 2) := by decide +kernel
theorem dX5_findCallable_61 : decode cX5_findCallable 61 = .ok (.iload_n 3, 1) := by decide +kernel
theorem dX5_findCallable_62 : decode cX5_findCallable 62 = .ok (.if_icmp .eq 31, 3) := by decide +kernel
theorem dX5_findCallable_65 : decode cX5_findCallable 65 = .ok (.iload 5, 2) := by decide +kernel
theorem dX5_findCallable_67 : decode cX5_findCallable 67 = .ok (.iconst 1, 1) := by decide +kernel
theorem dX5_findCallable_68 : decode cX5_findCallable 68 = .ok (.iload_n 3, 1) := by decide +kernel
theorem dX5_findCallable_69 : decode cX5_findCallable 69 = .ok (.ishl, 1) := by decide +kernel
theorem dX5_findCallable_70 : decode cX5_findCallable 70 = .ok (.iconst (-1), 1) := by decide +kernel
theorem dX5_findCallable_71 : decode cX5_findCallable 71 = .ok (.ixor, 1) := by decide +kernel
theorem dX5_findCallable_72 : decode cX5_findCallable 72 = .ok (.iand, 1) := by decide +kernel
theorem dX5_findCallable_73 : decode cX5_findCallable 73 = .ok (.iconst 1, 1) := by decide +kernel
theorem dX5_findCallable_74 : decode cX5_findCallable 74 = .ok (.iload 4, 2) := by decide +kernel
theorem dX5_findCallable_76 : decode cX5_findCallable 76 = .ok (.ishl, 1) := by decide +kernel
theorem dX5_findCallable_77 : decode cX5_findCallable 77 = .ok (.if_icmp .ne 16, 3) := by decide +kernel
theorem dX5_findCallable_80 : decode cX5_findCallable 80 = .ok (.aload_n 0, 1) := by decide +kernel
theorem dX5_findCallable_81 : decode cX5_findCallable 81 = .ok (.getfield 9, 3) := by decide +kernel
theorem dX5_findCallable_84 : decode cX5_findCallable 84 = .ok (.iload_n 3, 1) := by decide +kernel
theorem dX5_findCallable_85 : decode cX5_findCallable 85 = .ok (.dup2, 1) := by decide +kernel
theorem dX5_findCallable_86 : decode cX5_findCallable 86 = .ok (.iaload, 1) := by decide +kernel
theorem dX5_findCallable_87 : decode cX5_findCallable 87 = .ok (.iconst 1, 1) := by decide +kernel
theorem dX5_findCallable_88 : decode cX5_findCallable 88 = .ok (.iload 4, 2) := by decide +kernel
theorem dX5_findCallable_90 : decode cX5_findCallable 90 = .ok (.ishl, 1) := by decide +kernel
theorem dX5_findCallable_91 : decode cX5_findCallable 91 = .ok (.ior, 1) := by decide +kernel
theorem dX5_findCallable_92 : decode cX5_findCallable 92 = .ok (.iastore, 1) := by decide +kernel
theorem dX5_findCallable_93 : decode cX5_findCallable 93 = .ok (.iinc 4 1, 3) := by decide +kernel
theorem dX5_findCallable_96 : decode cX5_findCallable 96 = .ok (.goto (-64), 3) := by decide +kernel
theorem dX5_findCallable_99 : decode cX5_findCallable 99 = .ok (.iinc 3 1, 3) := by decide +kernel
theorem dX5_findCallable_102 : decode cX5_findCallable 102 = .ok (.goto (-100), 3) := by decide +kernel
theorem dX5_findCallable_105 : decode cX5_findCallable 105 = .ok (.return_, 1) := by decide +kernel
set_option maxRecDepth 20000 in
theorem ggX5_passOn_X4_notes : GoodIn wsX5_passOn wsX4_notes := goodIn_r _ [8] (by decide +kernel) (by decide +kernel)
set_option maxRecDepth 20000 in
theorem gX5_passOn_X4_notes : GoodIn wsX5_passOn (va_wsS RX5 101 yX4_notes wsX4_notes) := goodIn_app (goodIn_of _ (by decide +kernel)) ggX5_passOn_X4_notes
theorem dX5_passOn_0 : decode cX5_passOn 0 = .ok (.iconst 0, 1) := by decide +kernel
theorem dX5_passOn_1 : decode cX5_passOn 1 = .ok (.istore_n 3, 1) := by decide +kernel
theorem dX5_passOn_2 : decode cX5_passOn 2 = .ok (.iload_n 3, 1) := by decide +kernel
theorem dX5_passOn_3 : decode cX5_passOn 3 = .ok (.aload_n 1, 1) := by decide +kernel
theorem dX5_passOn_4 : decode cX5_passOn 4 = .ok (.getfield 36, 3) := by decide +kernel
theorem dX5_passOn_7 : decode cX5_passOn 7 = .ok (.if_icmp .ge 72, 3) := by decide +kernel
theorem dX5_passOn_10 : decode cX5_passOn 10 = .ok (.aload_n 0, 1) := by decide +kernel
theorem dX5_passOn_11 : decode cX5_passOn 11 = .ok (.getfield 9, 3) := by decide +kernel
theorem dX5_passOn_14 : decode cX5_passOn 14 = .ok (.iload_n 2, 1) := by decide +kernel
theorem dX5_passOn_15 : decode cX5_passOn 15 = .ok (.iaload, 1) := by decide +kernel
theorem dX5_passOn_16 : decode cX5_passOn 16 = .ok (.iload_n 3, 1) := by decide +kernel
theorem dX5_passOn_17 : decode cX5_passOn 17 = .ok (.ishr, 1) := by decide +kernel
theorem dX5_passOn_18 : decode cX5_passOn 18 = .ok (.iconst 1, 1) := by decide +kernel
theorem dX5_passOn_19 : decode cX5_passOn 19 = .ok (.iand, 1) := by decide +kernel
theorem dX5_passOn_20 : decode cX5_passOn 20 = .ok (.ifCond .ne 6, 3) := by decide +kernel
theorem dX5_passOn_23 : decode cX5_passOn 23 = .ok (.goto 50, 3) := by decide +kernel
theorem dX5_passOn_26 : decode cX5_passOn 26 = .ok (.aload_n 0, 1) := by decide +kernel
theorem dX5_passOn_27 : decode cX5_passOn 27 = .ok (.getfield 18, 3) := by decide +kernel
theorem dX5_passOn_30 : decode cX5_passOn 30 = .ok (.iload_n 2, 1) := by decide +kernel
theorem dX5_passOn_31 : decode cX5_passOn 31 = .ok (.iaload, 1) := by decide +kernel
theorem dX5_passOn_32 : decode cX5_passOn 32 = .ok (.aload_n 1, 1) := by decide +kernel
theorem dX5_passOn_33 : decode cX5_passOn 33 = .ok (.getfield 49, 3) := by decide +kernel
theorem dX5_passOn_36 : decode cX5_passOn 36 = .ok (.iload_n 3, 1) := by decide +kernel
theorem dX5_passOn_37 : decode cX5_passOn 37 = .ok (.iaload, 1) := by decide +kernel
theorem dX5_passOn_38 : decode cX5_passOn 38 = .ok (.invokestatic 101, 3) := by decide +kernel
theorem dX5_passOn_41 : decode cX5_passOn 41 = .ok (.iadd, 1) := by decide +kernel
theorem dX5_passOn_42 : decode cX5_passOn 42 = .ok (.istore 4, 2) := by decide +kernel
theorem dX5_passOn_44 : decode cX5_passOn 44 = .ok (.aload_n 0, 1) := by decide +kernel
theorem dX5_passOn_45 : decode cX5_passOn 45 = .ok (.getfield 18, 3) := by decide +kernel
theorem dX5_passOn_48 : decode cX5_passOn 48 = .ok (.iload_n 3, 1) := by decide +kernel
theorem dX5_passOn_49 : decode cX5_passOn 49 = .ok (.iaload, 1) := by decide +kernel
theorem dX5_passOn_50 : decode cX5_passOn 50 = .ok (.iconst (-1), 1) := by decide +kernel
theorem dX5_passOn_51 : decode cX5_passOn 51 = .ok (.if_icmp .eq 14, 3) := by decide +kernel
theorem dX5_passOn_54 : decode cX5_passOn 54 = .ok (.iload 4, 2) := by decide +kernel
theorem dX5_passOn_56 : decode cX5_passOn 56 = .ok (.aload_n 0, 1) := by decide +kernel
theorem dX5_passOn_57 : decode cX5_passOn 57 = .ok (.getfield 18, 3) := by decide +kernel
theorem dX5_passOn_60 : decode cX5_passOn 60 = .ok (.iload_n 3, 1) := by decide +kernel
theorem dX5_passOn_61 : decode cX5_passOn 61 = .ok (.iaload, 1) := by decide +kernel
theorem dX5_passOn_62 : decode cX5_passOn 62 = .ok (.if_icmp .ge 11, 3) := by decide +kernel
theorem dX5_passOn_65 : decode cX5_passOn 65 = .ok (.aload_n 0, 1) := by decide +kernel
theorem dX5_passOn_66 : decode cX5_passOn 66 = .ok (.getfield 18, 3) := by decide +kernel
theorem dX5_passOn_69 : decode cX5_passOn 69 = .ok (.iload_n 3, 1) := by decide +kernel
theorem dX5_passOn_70 : decode cX5_passOn 70 = .ok (.iload 4, 2) := by decide +kernel
theorem dX5_passOn_72 : decode cX5_passOn 72 = .ok (.iastore, 1) := by decide +kernel
theorem dX5_passOn_73 : decode cX5_passOn 73 = .ok (.iinc 3 1, 3) := by decide +kernel
theorem dX5_passOn_76 : decode cX5_passOn 76 = .ok (.goto (-74), 3) := by decide +kernel
theorem dX5_passOn_79 : decode cX5_passOn 79 = .ok (.return_, 1) := by decide +kernel
set_option maxRecDepth 20000 in
theorem ggX5_lastCaller_X4_notes : GoodIn wsX5_lastCaller wsX4_notes := goodIn_r _ [8] (by decide +kernel) (by decide +kernel)
set_option maxRecDepth 20000 in
theorem gX5_lastCaller_X4_notes : GoodIn wsX5_lastCaller (va_wsS RX5 101 yX4_notes wsX4_notes) := goodIn_app (goodIn_of _ (by decide +kernel)) ggX5_lastCaller_X4_notes
theorem dX5_lastCaller_0 : decode cX5_lastCaller 0 = .ok (.aload_n 0, 1) := by decide +kernel
theorem dX5_lastCaller_1 : decode cX5_lastCaller 1 = .ok (.getfield 18, 3) := by decide +kernel
theorem dX5_lastCaller_4 : decode cX5_lastCaller 4 = .ok (.iload_n 2, 1) := by decide +kernel
theorem dX5_lastCaller_5 : decode cX5_lastCaller 5 = .ok (.iaload, 1) := by decide +kernel
theorem dX5_lastCaller_6 : decode cX5_lastCaller 6 = .ok (.aload_n 1, 1) := by decide +kernel
theorem dX5_lastCaller_7 : decode cX5_lastCaller 7 = .ok (.getfield 49, 3) := by decide +kernel
theorem dX5_lastCaller_10 : decode cX5_lastCaller 10 = .ok (.iload_n 2, 1) := by decide +kernel
theorem dX5_lastCaller_11 : decode cX5_lastCaller 11 = .ok (.iaload, 1) := by decide +kernel
theorem dX5_lastCaller_12 : decode cX5_lastCaller 12 = .ok (.invokestatic 101, 3) := by decide +kernel
theorem dX5_lastCaller_15 : decode cX5_lastCaller 15 = .ok (.isub, 1) := by decide +kernel
theorem dX5_lastCaller_16 : decode cX5_lastCaller 16 = .ok (.istore_n 3, 1) := by decide +kernel
theorem dX5_lastCaller_17 : decode cX5_lastCaller 17 = .ok (.iconst 0, 1) := by decide +kernel
theorem dX5_lastCaller_18 : decode cX5_lastCaller 18 = .ok (.istore 4, 2) := by decide +kernel
theorem dX5_lastCaller_20 : decode cX5_lastCaller 20 = .ok (.iload 4, 2) := by decide +kernel
theorem dX5_lastCaller_22 : decode cX5_lastCaller 22 = .ok (.aload_n 1, 1) := by decide +kernel
theorem dX5_lastCaller_23 : decode cX5_lastCaller 23 = .ok (.getfield 36, 3) := by decide +kernel
theorem dX5_lastCaller_26 : decode cX5_lastCaller 26 = .ok (.if_icmp .ge 49, 3) := by decide +kernel
theorem dX5_lastCaller_29 : decode cX5_lastCaller 29 = .ok (.aload_n 0, 1) := by decide +kernel
theorem dX5_lastCaller_30 : decode cX5_lastCaller 30 = .ok (.getfield 9, 3) := by decide +kernel
theorem dX5_lastCaller_33 : decode cX5_lastCaller 33 = .ok (.iload 4, 2) := by decide +kernel
theorem dX5_lastCaller_35 : decode cX5_lastCaller 35 = .ok (.iaload, 1) := by decide +kernel
theorem dX5_lastCaller_36 : decode cX5_lastCaller 36 = .ok (.iload_n 2, 1) := by decide +kernel
theorem dX5_lastCaller_37 : decode cX5_lastCaller 37 = .ok (.ishr, 1) := by decide +kernel
theorem dX5_lastCaller_38 : decode cX5_lastCaller 38 = .ok (.iconst 1, 1) := by decide +kernel
theorem dX5_lastCaller_39 : decode cX5_lastCaller 39 = .ok (.iand, 1) := by decide +kernel
theorem dX5_lastCaller_40 : decode cX5_lastCaller 40 = .ok (.ifCond .eq 7, 3) := by decide +kernel
theorem dX5_lastCaller_43 : decode cX5_lastCaller 43 = .ok (.iconst 1, 1) := by decide +kernel
theorem dX5_lastCaller_44 : decode cX5_lastCaller 44 = .ok (.goto 4, 3) := by decide +kernel
theorem dX5_lastCaller_47 : decode cX5_lastCaller 47 = .ok (.iconst 0, 1) := by decide +kernel
theorem dX5_lastCaller_48 : decode cX5_lastCaller 48 = .ok (.istore 5, 2) := by decide +kernel
theorem dX5_lastCaller_50 : decode cX5_lastCaller 50 = .ok (.iload 5, 2) := by decide +kernel
theorem dX5_lastCaller_52 : decode cX5_lastCaller 52 = .ok (.ifCond .eq 17, 3) := by decide +kernel
theorem dX5_lastCaller_55 : decode cX5_lastCaller 55 = .ok (.aload_n 0, 1) := by decide +kernel
theorem dX5_lastCaller_56 : decode cX5_lastCaller 56 = .ok (.getfield 18, 3) := by decide +kernel
theorem dX5_lastCaller_59 : decode cX5_lastCaller 59 = .ok (.iload 4, 2) := by decide +kernel
theorem dX5_lastCaller_61 : decode cX5_lastCaller 61 = .ok (.iaload, 1) := by decide +kernel
theorem dX5_lastCaller_62 : decode cX5_lastCaller 62 = .ok (.iload_n 3, 1) := by decide +kernel
theorem dX5_lastCaller_63 : decode cX5_lastCaller 63 = .ok (.if_icmp .ne 6, 3) := by decide +kernel
theorem dX5_lastCaller_66 : decode cX5_lastCaller 66 = .ok (.iload 4, 2) := by decide +kernel
theorem dX5_lastCaller_68 : decode cX5_lastCaller 68 = .ok (.ireturn, 1) := by decide +kernel
theorem dX5_lastCaller_69 : decode cX5_lastCaller 69 = .ok (.iinc 4 1, 3) := by decide +kernel
theorem dX5_lastCaller_72 : decode cX5_lastCaller 72 = .ok (.goto (-52), 3) := by decide +kernel
theorem dX5_lastCaller_75 : decode cX5_lastCaller 75 = .ok (.iconst (-1), 1) := by decide +kernel
theorem dX5_lastCaller_76 : decode cX5_lastCaller 76 = .ok (.ireturn, 1) := by decide +kernel
set_option maxRecDepth 20000 in
theorem ggX6_init_X0_init : GoodIn wsX6_init wsX0_init := goodIn_r _ [28, 29, 2, 3, 24, 30, 31, 32, 33, 34, 35, 36, 37, 38, 39, 40, 6, 41, 42, 43, 44, 77, 78, 79, 80, 81, 82, 83, 84, 85, 86, 87] (by decide +kernel) (by decide +kernel)
set_option maxRecDepth 20000 in
theorem gX6_init_X0_init : GoodIn wsX6_init (wsX0_init) := ggX6_init_X0_init
set_option maxRecDepth 20000 in
theorem ggX6_init_X3_init : GoodIn wsX6_init wsX3_init := goodIn_r _ [46, 47, 2, 3, 24, 48, 49, 96, 97, 98, 99, 100, 101, 102, 103, 104] (by decide +kernel) (by decide +kernel)
set_option maxRecDepth 20000 in
theorem gX6_init_X3_init_n29 : GoodIn wsX6_init (wsX3_init) := ggX6_init_X3_init
set_option maxRecDepth 20000 in
theorem ggX6_init_X5_init : GoodIn wsX6_init wsX5_init := goodIn_r _ [52, 53, 2, 3, 24, 54, 55, 56, 57, 58, 59, 60, 61, 62, 63, 64, 105, 106, 107, 108, 109, 110, 111, 122, 123, 124, 125] (by decide +kernel) (by decide +kernel)
set_option maxRecDepth 20000 in
theorem gX6_init_X5_init : GoodIn wsX6_init (wsX5_init) := ggX6_init_X5_init
set_option maxRecDepth 20000 in
theorem ggX6_init_X2_init : GoodIn wsX6_init wsX2_init := goodIn_r _ [66, 67, 2, 3, 24, 68, 69, 70, 71, 59, 60, 72, 73, 74, 75, 76, 62, 63, 64, 112, 113, 114, 115, 116, 117, 118, 119, 120, 121, 122, 123, 124, 125] (by decide +kernel) (by decide +kernel)
set_option maxRecDepth 20000 in
theorem gX6_init_X2_init_n43 : GoodIn wsX6_init (wsX2_init) := ggX6_init_X2_init
theorem dX6_init_0 : decode cX6_init 0 = .ok (.aload_n 0, 1) := by decide +kernel
theorem dX6_init_1 : decode cX6_init 1 = .ok (.invokespecial 1, 3) := by decide +kernel
theorem dX6_init_4 : decode cX6_init 4 = .ok (.aload_n 0, 1) := by decide +kernel
theorem dX6_init_5 : decode cX6_init 5 = .ok (.new 7, 3) := by decide +kernel
theorem dX6_init_8 : decode cX6_init 8 = .ok (.dup, 1) := by decide +kernel
theorem dX6_init_9 : decode cX6_init 9 = .ok (.invokespecial 9, 3) := by decide +kernel
theorem dX6_init_12 : decode cX6_init 12 = .ok (.putfield 10, 3) := by decide +kernel
theorem dX6_init_15 : decode cX6_init 15 = .ok (.aload_n 0, 1) := by decide +kernel
theorem dX6_init_16 : decode cX6_init 16 = .ok (.new 7, 3) := by decide +kernel
theorem dX6_init_19 : decode cX6_init 19 = .ok (.dup, 1) := by decide +kernel
theorem dX6_init_20 : decode cX6_init 20 = .ok (.invokespecial 9, 3) := by decide +kernel
theorem dX6_init_23 : decode cX6_init 23 = .ok (.putfield 16, 3) := by decide +kernel
theorem dX6_init_26 : decode cX6_init 26 = .ok (.aload_n 0, 1) := by decide +kernel
theorem dX6_init_27 : decode cX6_init 27 = .ok (.iconst 2, 1) := by decide +kernel
theorem dX6_init_28 : decode cX6_init 28 = .ok (.anewarray 7, 3) := by decide +kernel
theorem dX6_init_31 : decode cX6_init 31 = .ok (.putfield 19, 3) := by decide +kernel
theorem dX6_init_34 : decode cX6_init 34 = .ok (.iconst 0, 1) := by decide +kernel
theorem dX6_init_35 : decode cX6_init 35 = .ok (.istore_n 1, 1) := by decide +kernel
theorem dX6_init_36 : decode cX6_init 36 = .ok (.iload_n 1, 1) := by decide +kernel
theorem dX6_init_37 : decode cX6_init 37 = .ok (.iconst 2, 1) := by decide +kernel
theorem dX6_init_38 : decode cX6_init 38 = .ok (.if_icmp .ge 22, 3) := by decide +kernel
theorem dX6_init_41 : decode cX6_init 41 = .ok (.aload_n 0, 1) := by decide +kernel
theorem dX6_init_42 : decode cX6_init 42 = .ok (.getfield 19, 3) := by decide +kernel
theorem dX6_init_45 : decode cX6_init 45 = .ok (.iload_n 1, 1) := by decide +kernel
theorem dX6_init_46 : decode cX6_init 46 = .ok (.new 7, 3) := by decide +kernel
theorem dX6_init_49 : decode cX6_init 49 = .ok (.dup, 1) := by decide +kernel
theorem dX6_init_50 : decode cX6_init 50 = .ok (.invokespecial 9, 3) := by decide +kernel
theorem dX6_init_53 : decode cX6_init 53 = .ok (.aastore, 1) := by decide +kernel
theorem dX6_init_54 : decode cX6_init 54 = .ok (.iinc 1 1, 3) := by decide +kernel
theorem dX6_init_57 : decode cX6_init 57 = .ok (.goto (-21), 3) := by decide +kernel
theorem dX6_init_60 : decode cX6_init 60 = .ok (.aload_n 0, 1) := by decide +kernel
theorem dX6_init_61 : decode cX6_init 61 = .ok (.iconst 2, 1) := by decide +kernel
theorem dX6_init_62 : decode cX6_init 62 = .ok (.newarray .boolean, 2) := by decide +kernel
theorem dX6_init_64 : decode cX6_init 64 = .ok (.putfield 23, 3) := by decide +kernel
theorem dX6_init_67 : decode cX6_init 67 = .ok (.aload_n 0, 1) := by decide +kernel
theorem dX6_init_68 : decode cX6_init 68 = .ok (.new 27, 3) := by decide +kernel
theorem dX6_init_71 : decode cX6_init 71 = .ok (.dup, 1) := by decide +kernel
theorem dX6_init_72 : decode cX6_init 72 = .ok (.invokespecial 29, 3) := by decide +kernel
theorem dX6_init_75 : decode cX6_init 75 = .ok (.putfield 30, 3) := by decide +kernel
theorem dX6_init_78 : decode cX6_init 78 = .ok (.aload_n 0, 1) := by decide +kernel
theorem dX6_init_79 : decode cX6_init 79 = .ok (.new 34, 3) := by decide +kernel
theorem dX6_init_82 : decode cX6_init 82 = .ok (.dup, 1) := by decide +kernel
theorem dX6_init_83 : decode cX6_init 83 = .ok (.invokespecial 36, 3) := by decide +kernel
theorem dX6_init_86 : decode cX6_init 86 = .ok (.putfield 37, 3) := by decide +kernel
theorem dX6_init_89 : decode cX6_init 89 = .ok (.aload_n 0, 1) := by decide +kernel
theorem dX6_init_90 : decode cX6_init 90 = .ok (.new 41, 3) := by decide +kernel
theorem dX6_init_93 : decode cX6_init 93 = .ok (.dup, 1) := by decide +kernel
theorem dX6_init_94 : decode cX6_init 94 = .ok (.invokespecial 43, 3) := by decide +kernel
theorem dX6_init_97 : decode cX6_init 97 = .ok (.putfield 44, 3) := by decide +kernel
theorem dX6_init_100 : decode cX6_init 100 = .ok (.aload_n 0, 1) := by decide +kernel
theorem dX6_init_101 : decode cX6_init 101 = .ok (.iconst 3, 1) := by decide +kernel
theorem dX6_init_102 : decode cX6_init 102 = .ok (.newarray .int, 2) := by decide +kernel
theorem dX6_init_104 : decode cX6_init 104 = .ok (.putfield 48, 3) := by decide +kernel
theorem dX6_init_107 : decode cX6_init 107 = .ok (.return_, 1) := by decide +kernel
set_option maxRecDepth 20000 in
theorem ggX6_hears_X0_tellWind : GoodIn wsX6_hears wsX0_tellWind := goodIn_r _ [6, 7, 8, 9, 10, 24, 25, 26, 27, 28, 29, 30, 31, 32, 33, 34] (by decide +kernel) (by decide +kernel)
set_option maxRecDepth 20000 in
theorem gX6_hears_X0_tellWind : GoodIn wsX6_hears (wsV RX6 52 RX0 yX0_tellWind wsX0_tellWind) := goodIn_app (goodIn_of _ (by decide +kernel)) ggX6_hears_X0_tellWind
set_option maxRecDepth 20000 in
theorem ggX6_hears_X6_refuse : GoodIn wsX6_hears wsX6_refuse := goodIn_r _ [14, 15, 16, 17, 18, 19, 20, 21, 22, 23] (by decide +kernel) (by decide +kernel)
set_option maxRecDepth 20000 in
theorem gX6_hears_X6_refuse : GoodIn wsX6_hears (wsV RX6 56 RX6 yX6_refuse wsX6_refuse) := goodIn_app (goodIn_of _ (by decide +kernel)) ggX6_hears_X6_refuse
theorem dX6_hears_0 : decode cX6_hears 0 = .ok (.aload_n 0, 1) := by decide +kernel
theorem dX6_hears_1 : decode cX6_hears 1 = .ok (.getfield 10, 3) := by decide +kernel
theorem dX6_hears_4 : decode cX6_hears 4 = .ok (.iload_n 1, 1) := by decide +kernel
theorem dX6_hears_5 : decode cX6_hears 5 = .ok (.iload_n 2, 1) := by decide +kernel
theorem dX6_hears_6 : decode cX6_hears 6 = .ok (.iload_n 3, 1) := by decide +kernel
theorem dX6_hears_7 : decode cX6_hears 7 = .ok (.invokevirtual 52, 3) := by decide +kernel
theorem dX6_hears_10 : decode cX6_hears 10 = .ok (.istore 4, 2) := by decide +kernel
theorem dX6_hears_12 : decode cX6_hears 12 = .ok (.iload 4, 2) := by decide +kernel
theorem dX6_hears_14 : decode cX6_hears 14 = .ok (.bipush (-2), 2) := by decide +kernel
theorem dX6_hears_16 : decode cX6_hears 16 = .ok (.if_icmp .ne 14, 3) := by decide +kernel
theorem dX6_hears_19 : decode cX6_hears 19 = .ok (.aload_n 0, 1) := by decide +kernel
theorem dX6_hears_20 : decode cX6_hears 20 = .ok (.bipush (-2), 2) := by decide +kernel
theorem dX6_hears_22 : decode cX6_hears 22 = .ok (.bipush (-10), 2) := by decide +kernel
theorem dX6_hears_24 : decode cX6_hears 24 = .ok (.invokevirtual 56, 3) := by decide +kernel
theorem dX6_hears_27 : decode cX6_hears 27 = .ok (.goto 5, 3) := by decide +kernel
theorem dX6_hears_30 : decode cX6_hears 30 = .ok (.iload 4, 2) := by decide +kernel
theorem dX6_hears_32 : decode cX6_hears 32 = .ok (.ireturn, 1) := by decide +kernel
set_option maxRecDepth 20000 in
theorem ggX6_one_X0_tellPerson : GoodIn wsX6_one wsX0_tellPerson := goodIn_r _ [6, 7, 8, 9, 10, 11, 12, 13, 14, 15, 16, 17, 18, 19, 20, 21, 39, 40, 41, 42, 43, 44, 45, 46, 47, 48, 49] (by decide +kernel) (by decide +kernel)
set_option maxRecDepth 20000 in
theorem gX6_one_X0_tellPerson : GoodIn wsX6_one (wsV RX6 60 RX0 yX0_tellPerson wsX0_tellPerson) := goodIn_app (goodIn_of _ (by decide +kernel)) ggX6_one_X0_tellPerson
set_option maxRecDepth 20000 in
theorem ggX6_one_X6_counted : GoodIn wsX6_one wsX6_counted := goodIn_r _ [25, 26, 27, 28, 13, 29, 30, 31, 32, 33, 34, 35, 36, 37, 38] (by decide +kernel) (by decide +kernel)
set_option maxRecDepth 20000 in
theorem gX6_one_X6_counted : GoodIn wsX6_one (wsV RX6 64 RX6 yX6_counted wsX6_counted) := goodIn_app (goodIn_of _ (by decide +kernel)) ggX6_one_X6_counted
theorem dX6_one_0 : decode cX6_one 0 = .ok (.aload_n 0, 1) := by decide +kernel
theorem dX6_one_1 : decode cX6_one 1 = .ok (.aload_n 0, 1) := by decide +kernel
theorem dX6_one_2 : decode cX6_one 2 = .ok (.getfield 10, 3) := by decide +kernel
theorem dX6_one_5 : decode cX6_one 5 = .ok (.iload_n 1, 1) := by decide +kernel
theorem dX6_one_6 : decode cX6_one 6 = .ok (.iload_n 2, 1) := by decide +kernel
theorem dX6_one_7 : decode cX6_one 7 = .ok (.iload_n 3, 1) := by decide +kernel
theorem dX6_one_8 : decode cX6_one 8 = .ok (.iload 4, 2) := by decide +kernel
theorem dX6_one_10 : decode cX6_one 10 = .ok (.invokevirtual 60, 3) := by decide +kernel
theorem dX6_one_13 : decode cX6_one 13 = .ok (.invokevirtual 64, 3) := by decide +kernel
theorem dX6_one_16 : decode cX6_one 16 = .ok (.ireturn, 1) := by decide +kernel
set_option maxRecDepth 20000 in
theorem ggX6_rename_X0_isPerson : GoodIn wsX6_rename wsX0_isPerson := goodIn_r _ [7, 8, 9, 10, 11, 32, 33, 34, 35, 36, 37, 38, 39, 40, 41, 42] (by decide +kernel) (by decide +kernel)
set_option maxRecDepth 20000 in
theorem gX6_rename_X0_isPerson : GoodIn wsX6_rename (wsV RX6 68 RX0 yX0_isPerson wsX0_isPerson) := goodIn_app (goodIn_of _ (by decide +kernel)) ggX6_rename_X0_isPerson
set_option maxRecDepth 20000 in
theorem ggX6_rename_X4_isTune : GoodIn wsX6_rename wsX4_isTune := goodIn_r _ [15, 16, 17, 14, 18] (by decide +kernel) (by decide +kernel)
set_option maxRecDepth 20000 in
theorem gX6_rename_X4_isTune : GoodIn wsX6_rename (va_wsS RX6 72 yX4_isTune wsX4_isTune) := goodIn_app (goodIn_of _ (by decide +kernel)) ggX6_rename_X4_isTune
set_option maxRecDepth 20000 in
theorem ggX6_rename_X6_refuse : GoodIn wsX6_rename wsX6_refuse := goodIn_r _ [22, 23, 24, 25, 26, 27, 28, 29, 30, 31] (by decide +kernel) (by decide +kernel)
set_option maxRecDepth 20000 in
theorem gX6_rename_X6_refuse : GoodIn wsX6_rename (wsV RX6 56 RX6 yX6_refuse wsX6_refuse) := goodIn_app (goodIn_of _ (by decide +kernel)) ggX6_rename_X6_refuse
theorem dX6_rename_0 : decode cX6_rename 0 = .ok (.aload_n 0, 1) := by decide +kernel
theorem dX6_rename_1 : decode cX6_rename 1 = .ok (.getfield 10, 3) := by decide +kernel
theorem dX6_rename_4 : decode cX6_rename 4 = .ok (.iload_n 1, 1) := by decide +kernel
theorem dX6_rename_5 : decode cX6_rename 5 = .ok (.invokevirtual 68, 3) := by decide +kernel
theorem dX6_rename_8 : decode cX6_rename 8 = .ok (.ifCond .eq 10, 3) := by decide +kernel
theorem dX6_rename_11 : decode cX6_rename 11 = .ok (.iload_n 2, 1) := by decide +kernel
theorem dX6_rename_12 : decode cX6_rename 12 = .ok (.invokestatic 72, 3) := by decide +kernel
theorem dX6_rename_15 : decode cX6_rename 15 = .ok (.ifCond .ne 12, 3) := by decide +kernel
theorem dX6_rename_18 : decode cX6_rename 18 = .ok (.aload_n 0, 1) := by decide +kernel
theorem dX6_rename_19 : decode cX6_rename 19 = .ok (.bipush (-2), 2) := by decide +kernel
theorem dX6_rename_21 : decode cX6_rename 21 = .ok (.bipush (-2), 2) := by decide +kernel
theorem dX6_rename_23 : decode cX6_rename 23 = .ok (.invokevirtual 56, 3) := by decide +kernel
theorem dX6_rename_26 : decode cX6_rename 26 = .ok (.ireturn, 1) := by decide +kernel
theorem dX6_rename_27 : decode cX6_rename 27 = .ok (.aload_n 0, 1) := by decide +kernel
theorem dX6_rename_28 : decode cX6_rename 28 = .ok (.getfield 10, 3) := by decide +kernel
theorem dX6_rename_31 : decode cX6_rename 31 = .ok (.getfield 77, 3) := by decide +kernel
theorem dX6_rename_34 : decode cX6_rename 34 = .ok (.iload_n 1, 1) := by decide +kernel
theorem dX6_rename_35 : decode cX6_rename 35 = .ok (.iaload, 1) := by decide +kernel
theorem dX6_rename_36 : decode cX6_rename 36 = .ok (.istore_n 3, 1) := by decide +kernel
theorem dX6_rename_37 : decode cX6_rename 37 = .ok (.aload_n 0, 1) := by decide +kernel
theorem dX6_rename_38 : decode cX6_rename 38 = .ok (.getfield 10, 3) := by decide +kernel
theorem dX6_rename_41 : decode cX6_rename 41 = .ok (.getfield 77, 3) := by decide +kernel
theorem dX6_rename_44 : decode cX6_rename 44 = .ok (.iload_n 1, 1) := by decide +kernel
theorem dX6_rename_45 : decode cX6_rename 45 = .ok (.iload_n 2, 1) := by decide +kernel
theorem dX6_rename_46 : decode cX6_rename 46 = .ok (.iastore, 1) := by decide +kernel
theorem dX6_rename_47 : decode cX6_rename 47 = .ok (.iload_n 3, 1) := by decide +kernel
theorem dX6_rename_48 : decode cX6_rename 48 = .ok (.ireturn, 1) := by decide +kernel
set_option maxRecDepth 20000 in
theorem ggX6_move_X0_isPerson : GoodIn wsX6_move wsX0_isPerson := goodIn_r _ [7, 8, 9, 10, 11, 26, 27, 28, 29, 30, 31, 32, 33, 34, 35, 36] (by decide +kernel) (by decide +kernel)
set_option maxRecDepth 20000 in
theorem gX6_move_X0_isPerson : GoodIn wsX6_move (wsV RX6 68 RX0 yX0_isPerson wsX0_isPerson) := goodIn_app (goodIn_of _ (by decide +kernel)) ggX6_move_X0_isPerson
set_option maxRecDepth 20000 in
theorem ggX6_move_X6_isBelow : GoodIn wsX6_move wsX6_isBelow := goodIn_r _ [11] (by decide +kernel) (by decide +kernel)
set_option maxRecDepth 20000 in
theorem gX6_move_X6_isBelow : GoodIn wsX6_move (va_wsS RX6 80 yX6_isBelow wsX6_isBelow) := goodIn_app (goodIn_of _ (by decide +kernel)) ggX6_move_X6_isBelow
set_option maxRecDepth 20000 in
theorem ggX6_move_X6_refuse : GoodIn wsX6_move wsX6_refuse := goodIn_r _ [16, 17, 18, 19, 20, 21, 22, 23, 24, 25] (by decide +kernel) (by decide +kernel)
set_option maxRecDepth 20000 in
theorem gX6_move_X6_refuse : GoodIn wsX6_move (wsV RX6 56 RX6 yX6_refuse wsX6_refuse) := goodIn_app (goodIn_of _ (by decide +kernel)) ggX6_move_X6_refuse
theorem dX6_move_0 : decode cX6_move 0 = .ok (.aload_n 0, 1) := by decide +kernel
theorem dX6_move_1 : decode cX6_move 1 = .ok (.getfield 10, 3) := by decide +kernel
theorem dX6_move_4 : decode cX6_move 4 = .ok (.iload_n 1, 1) := by decide +kernel
theorem dX6_move_5 : decode cX6_move 5 = .ok (.invokevirtual 68, 3) := by decide +kernel
theorem dX6_move_8 : decode cX6_move 8 = .ok (.ifCond .eq 12, 3) := by decide +kernel
theorem dX6_move_11 : decode cX6_move 11 = .ok (.iload_n 2, 1) := by decide +kernel
theorem dX6_move_12 : decode cX6_move 12 = .ok (.bipush 6, 2) := by decide +kernel
theorem dX6_move_14 : decode cX6_move 14 = .ok (.invokestatic 80, 3) := by decide +kernel
theorem dX6_move_17 : decode cX6_move 17 = .ok (.ifCond .ne 12, 3) := by decide +kernel
theorem dX6_move_20 : decode cX6_move 20 = .ok (.aload_n 0, 1) := by decide +kernel
theorem dX6_move_21 : decode cX6_move 21 = .ok (.bipush (-2), 2) := by decide +kernel
theorem dX6_move_23 : decode cX6_move 23 = .ok (.bipush (-2), 2) := by decide +kernel
theorem dX6_move_25 : decode cX6_move 25 = .ok (.invokevirtual 56, 3) := by decide +kernel
theorem dX6_move_28 : decode cX6_move 28 = .ok (.ireturn, 1) := by decide +kernel
theorem dX6_move_29 : decode cX6_move 29 = .ok (.aload_n 0, 1) := by decide +kernel
theorem dX6_move_30 : decode cX6_move 30 = .ok (.getfield 10, 3) := by decide +kernel
theorem dX6_move_33 : decode cX6_move 33 = .ok (.getfield 84, 3) := by decide +kernel
theorem dX6_move_36 : decode cX6_move 36 = .ok (.iload_n 1, 1) := by decide +kernel
theorem dX6_move_37 : decode cX6_move 37 = .ok (.iaload, 1) := by decide +kernel
theorem dX6_move_38 : decode cX6_move 38 = .ok (.istore_n 3, 1) := by decide +kernel
theorem dX6_move_39 : decode cX6_move 39 = .ok (.aload_n 0, 1) := by decide +kernel
theorem dX6_move_40 : decode cX6_move 40 = .ok (.getfield 10, 3) := by decide +kernel
theorem dX6_move_43 : decode cX6_move 43 = .ok (.getfield 84, 3) := by decide +kernel
theorem dX6_move_46 : decode cX6_move 46 = .ok (.iload_n 1, 1) := by decide +kernel
theorem dX6_move_47 : decode cX6_move 47 = .ok (.iload_n 2, 1) := by decide +kernel
theorem dX6_move_48 : decode cX6_move 48 = .ok (.iastore, 1) := by decide +kernel
theorem dX6_move_49 : decode cX6_move 49 = .ok (.iload_n 3, 1) := by decide +kernel
theorem dX6_move_50 : decode cX6_move 50 = .ok (.ireturn, 1) := by decide +kernel
set_option maxRecDepth 20000 in
theorem ggX6_dead_X0_tellDead : GoodIn wsX6_dead wsX0_tellDead := goodIn_r _ [6, 7, 8, 9, 10, 11, 12, 13, 14, 15, 16, 17, 18, 19, 37, 38, 39, 40, 41, 42, 43, 44, 45, 46, 47] (by decide +kernel) (by decide +kernel)
set_option maxRecDepth 20000 in
theorem gX6_dead_X0_tellDead : GoodIn wsX6_dead (wsV RX6 87 RX0 yX0_tellDead wsX0_tellDead) := goodIn_app (goodIn_of _ (by decide +kernel)) ggX6_dead_X0_tellDead
set_option maxRecDepth 20000 in
theorem ggX6_dead_X6_counted : GoodIn wsX6_dead wsX6_counted := goodIn_r _ [23, 24, 25, 26, 18, 27, 28, 29, 30, 31, 32, 33, 34, 35, 36] (by decide +kernel) (by decide +kernel)
set_option maxRecDepth 20000 in
theorem gX6_dead_X6_counted : GoodIn wsX6_dead (wsV RX6 64 RX6 yX6_counted wsX6_counted) := goodIn_app (goodIn_of _ (by decide +kernel)) ggX6_dead_X6_counted
theorem dX6_dead_0 : decode cX6_dead 0 = .ok (.aload_n 0, 1) := by decide +kernel
theorem dX6_dead_1 : decode cX6_dead 1 = .ok (.aload_n 0, 1) := by decide +kernel
theorem dX6_dead_2 : decode cX6_dead 2 = .ok (.getfield 10, 3) := by decide +kernel
theorem dX6_dead_5 : decode cX6_dead 5 = .ok (.iload_n 1, 1) := by decide +kernel
theorem dX6_dead_6 : decode cX6_dead 6 = .ok (.iload_n 2, 1) := by decide +kernel
theorem dX6_dead_7 : decode cX6_dead 7 = .ok (.invokevirtual 87, 3) := by decide +kernel
theorem dX6_dead_10 : decode cX6_dead 10 = .ok (.invokevirtual 64, 3) := by decide +kernel
theorem dX6_dead_13 : decode cX6_dead 13 = .ok (.ireturn, 1) := by decide +kernel
set_option maxRecDepth 20000 in
theorem ggX6_comes_X4_isTune : GoodIn wsX6_comes wsX4_isTune := goodIn_r _ [4, 5, 6, 3, 7] (by decide +kernel) (by decide +kernel)
set_option maxRecDepth 20000 in
theorem gX6_comes_X4_isTune : GoodIn wsX6_comes (va_wsS RX6 72 yX4_isTune wsX4_isTune) := goodIn_app (goodIn_of _ (by decide +kernel)) ggX6_comes_X4_isTune
set_option maxRecDepth 20000 in
theorem ggX6_comes_X6_isBelow : GoodIn wsX6_comes wsX6_isBelow := goodIn_r _ [11] (by decide +kernel) (by decide +kernel)
set_option maxRecDepth 20000 in
theorem gX6_comes_X6_isBelow : GoodIn wsX6_comes (va_wsS RX6 80 yX6_isBelow wsX6_isBelow) := goodIn_app (goodIn_of _ (by decide +kernel)) ggX6_comes_X6_isBelow
set_option maxRecDepth 20000 in
theorem ggX6_comes_X6_refuse : GoodIn wsX6_comes wsX6_refuse := goodIn_r _ [15, 16, 20, 21, 22, 23, 24, 25, 26, 27] (by decide +kernel) (by decide +kernel)
set_option maxRecDepth 20000 in
theorem gX6_comes_X6_refuse : GoodIn wsX6_comes (wsV RX6 56 RX6 yX6_refuse wsX6_refuse) := goodIn_app (goodIn_of _ (by decide +kernel)) ggX6_comes_X6_refuse
set_option maxRecDepth 20000 in
theorem ggX6_comes_X4_lessLost : GoodIn wsX6_comes wsX4_lessLost := goodIn_r _ [19, 5, 6, 3, 7] (by decide +kernel) (by decide +kernel)
set_option maxRecDepth 20000 in
theorem gX6_comes_X4_lessLost : GoodIn wsX6_comes (va_wsS RX6 90 yX4_lessLost wsX4_lessLost) := goodIn_app (goodIn_of _ (by decide +kernel)) ggX6_comes_X4_lessLost
theorem dX6_comes_0 : decode cX6_comes 0 = .ok (.iload_n 1, 1) := by decide +kernel
theorem dX6_comes_1 : decode cX6_comes 1 = .ok (.invokestatic 72, 3) := by decide +kernel
theorem dX6_comes_4 : decode cX6_comes 4 = .ok (.ifCond .eq 11, 3) := by decide +kernel
theorem dX6_comes_7 : decode cX6_comes 7 = .ok (.iload_n 2, 1) := by decide +kernel
theorem dX6_comes_8 : decode cX6_comes 8 = .ok (.iconst 4, 1) := by decide +kernel
theorem dX6_comes_9 : decode cX6_comes 9 = .ok (.invokestatic 80, 3) := by decide +kernel
theorem dX6_comes_12 : decode cX6_comes 12 = .ok (.ifCond .ne 12, 3) := by decide +kernel
theorem dX6_comes_15 : decode cX6_comes 15 = .ok (.aload_n 0, 1) := by decide +kernel
theorem dX6_comes_16 : decode cX6_comes 16 = .ok (.bipush (-2), 2) := by decide +kernel
theorem dX6_comes_18 : decode cX6_comes 18 = .ok (.bipush (-2), 2) := by decide +kernel
theorem dX6_comes_20 : decode cX6_comes 20 = .ok (.invokevirtual 56, 3) := by decide +kernel
theorem dX6_comes_23 : decode cX6_comes 23 = .ok (.ireturn, 1) := by decide +kernel
theorem dX6_comes_24 : decode cX6_comes 24 = .ok (.iload_n 1, 1) := by decide +kernel
theorem dX6_comes_25 : decode cX6_comes 25 = .ok (.iload_n 2, 1) := by decide +kernel
theorem dX6_comes_26 : decode cX6_comes 26 = .ok (.invokestatic 90, 3) := by decide +kernel
theorem dX6_comes_29 : decode cX6_comes 29 = .ok (.ireturn, 1) := by decide +kernel
set_option maxRecDepth 20000 in
theorem ggX6_type_X6_refuse : GoodIn wsX6_type wsX6_refuse := goodIn_r _ [6, 7, 19, 20, 21, 22, 23, 24, 25, 26] (by decide +kernel) (by decide +kernel)
set_option maxRecDepth 20000 in
theorem gX6_type_X6_refuse : GoodIn wsX6_type (wsV RX6 56 RX6 yX6_refuse wsX6_refuse) := goodIn_app (goodIn_of _ (by decide +kernel)) ggX6_type_X6_refuse
set_option maxRecDepth 20000 in
theorem ggX6_type_X3_add : GoodIn wsX6_type wsX3_add := goodIn_r _ [12, 13, 14, 27, 28, 29, 30, 31, 32, 33, 34, 35] (by decide +kernel) (by decide +kernel)
set_option maxRecDepth 20000 in
theorem gX6_type_X3_add : GoodIn wsX6_type (wsV RX6 93 RX3 yX3_add wsX3_add) := goodIn_app (goodIn_of _ (by decide +kernel)) ggX6_type_X3_add
set_option maxRecDepth 20000 in
theorem ggX6_type_X6_counted : GoodIn wsX6_type wsX6_counted := goodIn_r _ [18, 2, 3, 4, 5, 6, 7, 19, 20, 21, 22, 23, 24, 25, 26] (by decide +kernel) (by decide +kernel)
set_option maxRecDepth 20000 in
theorem gX6_type_X6_counted : GoodIn wsX6_type (wsV RX6 64 RX6 yX6_counted wsX6_counted) := goodIn_app (goodIn_of _ (by decide +kernel)) ggX6_type_X6_counted
theorem dX6_type_0 : decode cX6_type 0 = .ok (.iload_n 3, 1) := by decide +kernel
theorem dX6_type_1 : decode cX6_type 1 = .ok (.iconst 1, 1) := by decide +kernel
theorem dX6_type_2 : decode cX6_type 2 = .ok (.if_icmp .lt 9, 3) := by decide +kernel
theorem dX6_type_5 : decode cX6_type 5 = .ok (.iload_n 3, 1) := by decide +kernel
theorem dX6_type_6 : decode cX6_type 6 = .ok (.bipush 8, 2) := by decide +kernel
theorem dX6_type_8 : decode cX6_type 8 = .ok (.if_icmp .le 12, 3) := by decide +kernel
theorem dX6_type_11 : decode cX6_type 11 = .ok (.aload_n 0, 1) := by decide +kernel
theorem dX6_type_12 : decode cX6_type 12 = .ok (.bipush (-2), 2) := by decide +kernel
theorem dX6_type_14 : decode cX6_type 14 = .ok (.bipush (-2), 2) := by decide +kernel
theorem dX6_type_16 : decode cX6_type 16 = .ok (.invokevirtual 56, 3) := by decide +kernel
theorem dX6_type_19 : decode cX6_type 19 = .ok (.ireturn, 1) := by decide +kernel
theorem dX6_type_20 : decode cX6_type 20 = .ok (.aload_n 0, 1) := by decide +kernel
theorem dX6_type_21 : decode cX6_type 21 = .ok (.aload_n 0, 1) := by decide +kernel
theorem dX6_type_22 : decode cX6_type 22 = .ok (.getfield 30, 3) := by decide +kernel
theorem dX6_type_25 : decode cX6_type 25 = .ok (.lload_n 1, 1) := by decide +kernel
theorem dX6_type_26 : decode cX6_type 26 = .ok (.iload_n 3, 1) := by decide +kernel
theorem dX6_type_27 : decode cX6_type 27 = .ok (.invokevirtual 93, 3) := by decide +kernel
theorem dX6_type_30 : decode cX6_type 30 = .ok (.invokevirtual 64, 3) := by decide +kernel
theorem dX6_type_33 : decode cX6_type 33 = .ok (.ireturn, 1) := by decide +kernel
theorem dX6_clear_0 : decode cX6_clear 0 = .ok (.aload_n 0, 1) := by decide +kernel
theorem dX6_clear_1 : decode cX6_clear 1 = .ok (.getfield 30, 3) := by decide +kernel
theorem dX6_clear_4 : decode cX6_clear 4 = .ok (.getfield 97, 3) := by decide +kernel
theorem dX6_clear_7 : decode cX6_clear 7 = .ok (.istore_n 1, 1) := by decide +kernel
theorem dX6_clear_8 : decode cX6_clear 8 = .ok (.aload_n 0, 1) := by decide +kernel
theorem dX6_clear_9 : decode cX6_clear 9 = .ok (.getfield 30, 3) := by decide +kernel
theorem dX6_clear_12 : decode cX6_clear 12 = .ok (.iconst 0, 1) := by decide +kernel
theorem dX6_clear_13 : decode cX6_clear 13 = .ok (.putfield 97, 3) := by decide +kernel
theorem dX6_clear_16 : decode cX6_clear 16 = .ok (.iload_n 1, 1) := by decide +kernel
theorem dX6_clear_17 : decode cX6_clear 17 = .ok (.ireturn, 1) := by decide +kernel
set_option maxRecDepth 20000 in
theorem ggX6_read_X3_tellInto : GoodIn wsX6_read wsX3_tellInto := goodIn_r _ [10, 11, 12, 13, 14, 15, 16, 17, 18, 19, 20, 21, 22, 23, 24, 25, 26, 27, 28, 9, 29, 30, 31, 32, 33, 34, 35, 36, 37, 38, 39, 40, 41, 42, 43, 44, 45, 46, 47, 48, 49, 50, 51, 52, 53, 54, 55, 56, 57, 58, 59, 60, 61, 62, 63, 64, 65, 66, 67, 68, 69, 70, 71, 72, 73, 74, 75, 76, 77, 78, 79, 80, 81, 82, 83, 84, 85, 86, 87, 88, 89, 90, 91, 92, 93, 94, 95, 96, 97, 98, 99, 100, 101, 102, 103, 104, 105, 106, 107, 108, 109, 110, 111, 112, 113, 114, 115, 116, 117, 118, 119, 120, 121, 122, 123, 124, 125, 126, 127, 128, 129, 130, 131, 132, 133, 134, 135, 136, 137, 138, 139, 140, 141, 142, 151, 152, 153, 154, 155, 156, 157, 158, 159, 160, 161, 162, 163, 164, 165, 166, 167, 168, 169, 170] (by decide +kernel) (by decide +kernel)
set_option maxRecDepth 20000 in
theorem gX6_read_X3_tellInto : GoodIn wsX6_read (wsV RX6 101 RX3 yX3_tellInto wsX3_tellInto) := goodIn_app (goodIn_of _ (by decide +kernel)) ggX6_read_X3_tellInto
theorem dX6_read_0 : decode cX6_read 0 = .ok (.aload_n 0, 1) := by decide +kernel
theorem dX6_read_1 : decode cX6_read 1 = .ok (.getfield 30, 3) := by decide +kernel
theorem dX6_read_4 : decode cX6_read 4 = .ok (.aload_n 0, 1) := by decide +kernel
theorem dX6_read_5 : decode cX6_read 5 = .ok (.getfield 16, 3) := by decide +kernel
theorem dX6_read_8 : decode cX6_read 8 = .ok (.invokevirtual 101, 3) := by decide +kernel
theorem dX6_read_11 : decode cX6_read 11 = .ok (.istore_n 1, 1) := by decide +kernel
theorem dX6_read_12 : decode cX6_read 12 = .ok (.iload_n 1, 1) := by decide +kernel
theorem dX6_read_13 : decode cX6_read 13 = .ok (.iconst (-1), 1) := by decide +kernel
theorem dX6_read_14 : decode cX6_read 14 = .ok (.if_icmp .eq 8, 3) := by decide +kernel
theorem dX6_read_17 : decode cX6_read 17 = .ok (.bipush (-10), 2) := by decide +kernel
theorem dX6_read_19 : decode cX6_read 19 = .ok (.iload_n 1, 1) := by decide +kernel
theorem dX6_read_20 : decode cX6_read 20 = .ok (.isub, 1) := by decide +kernel
theorem dX6_read_21 : decode cX6_read 21 = .ok (.ireturn, 1) := by decide +kernel
theorem dX6_read_22 : decode cX6_read 22 = .ok (.aload_n 0, 1) := by decide +kernel
theorem dX6_read_23 : decode cX6_read 23 = .ok (.getfield 30, 3) := by decide +kernel
theorem dX6_read_26 : decode cX6_read 26 = .ok (.getfield 105, 3) := by decide +kernel
theorem dX6_read_29 : decode cX6_read 29 = .ok (.iconst (-1), 1) := by decide +kernel
theorem dX6_read_30 : decode cX6_read 30 = .ok (.if_icmp .eq 15, 3) := by decide +kernel
theorem dX6_read_33 : decode cX6_read 33 = .ok (.sipush (-1000), 3) := by decide +kernel
theorem dX6_read_36 : decode cX6_read 36 = .ok (.aload_n 0, 1) := by decide +kernel
theorem dX6_read_37 : decode cX6_read 37 = .ok (.getfield 30, 3) := by decide +kernel
theorem dX6_read_40 : decode cX6_read 40 = .ok (.getfield 105, 3) := by decide +kernel
theorem dX6_read_43 : decode cX6_read 43 = .ok (.isub, 1) := by decide +kernel
theorem dX6_read_44 : decode cX6_read 44 = .ok (.ireturn, 1) := by decide +kernel
theorem dX6_read_45 : decode cX6_read 45 = .ok (.aload_n 0, 1) := by decide +kernel
theorem dX6_read_46 : decode cX6_read 46 = .ok (.getfield 10, 3) := by decide +kernel
theorem dX6_read_49 : decode cX6_read 49 = .ok (.astore_n 2, 1) := by decide +kernel
theorem dX6_read_50 : decode cX6_read 50 = .ok (.aload_n 0, 1) := by decide +kernel
theorem dX6_read_51 : decode cX6_read 51 = .ok (.aload_n 0, 1) := by decide +kernel
theorem dX6_read_52 : decode cX6_read 52 = .ok (.getfield 16, 3) := by decide +kernel
theorem dX6_read_55 : decode cX6_read 55 = .ok (.putfield 10, 3) := by decide +kernel
theorem dX6_read_58 : decode cX6_read 58 = .ok (.aload_n 0, 1) := by decide +kernel
theorem dX6_read_59 : decode cX6_read 59 = .ok (.aload_n 2, 1) := by decide +kernel
theorem dX6_read_60 : decode cX6_read 60 = .ok (.putfield 16, 3) := by decide +kernel
theorem dX6_read_63 : decode cX6_read 63 = .ok (.aload_n 0, 1) := by decide +kernel
theorem dX6_read_64 : decode cX6_read 64 = .ok (.getfield 30, 3) := by decide +kernel
theorem dX6_read_67 : decode cX6_read 67 = .ok (.getfield 108, 3) := by decide +kernel
theorem dX6_read_70 : decode cX6_read 70 = .ok (.ireturn, 1) := by decide +kernel
set_option maxRecDepth 20000 in
theorem ggX6_call_X6_isCall : GoodIn wsX6_call wsX6_isCall := goodIn_r _ [6, 7, 8, 5, 9, 10, 11, 12, 13, 14, 15, 16] (by decide +kernel) (by decide +kernel)
set_option maxRecDepth 20000 in
theorem gX6_call_X6_isCall : GoodIn wsX6_call (va_wsS RX6 111 yX6_isCall wsX6_isCall) := goodIn_app (goodIn_of _ (by decide +kernel)) ggX6_call_X6_isCall
set_option maxRecDepth 20000 in
theorem ggX6_call_X6_refuse : GoodIn wsX6_call wsX6_refuse := goodIn_r _ [20, 21, 80, 81, 82, 83, 84, 85, 86, 87] (by decide +kernel) (by decide +kernel)
set_option maxRecDepth 20000 in
theorem gX6_call_X6_refuse : GoodIn wsX6_call (wsV RX6 56 RX6 yX6_refuse wsX6_refuse) := goodIn_app (goodIn_of _ (by decide +kernel)) ggX6_call_X6_refuse
set_option maxRecDepth 20000 in
theorem ggX6_call_X5_turners : GoodIn wsX6_call wsX5_turners := goodIn_r _ [26, 27, 28, 29, 30, 25, 31, 32, 33, 34, 35, 36, 37, 38, 39, 40, 41, 42, 43, 44, 45, 46, 47, 12, 48, 14, 15, 16, 49, 50, 51, 52, 53, 54, 55, 56, 57, 58, 59, 60, 61, 62, 63, 64, 65, 66, 67, 68, 69, 70, 71, 72, 73, 74, 75, 76, 77, 78, 79, 88, 89, 90, 91, 92, 93, 94, 95, 96, 97, 98, 99, 100, 101, 102, 103, 104, 105, 106, 107, 108, 109] (by decide +kernel) (by decide +kernel)
set_option maxRecDepth 20000 in
theorem gX6_call_X5_turners : GoodIn wsX6_call (wsV RX6 115 RX5 yX5_turners wsX5_turners) := goodIn_app (goodIn_of _ (by decide +kernel)) ggX6_call_X5_turners
theorem dX6_call_0 : decode cX6_call 0 = .ok (.iload_n 1, 1) := by decide +kernel
theorem dX6_call_1 : decode cX6_call 1 = .ok (.iload_n 2, 1) := by decide +kernel
theorem dX6_call_2 : decode cX6_call 2 = .ok (.iload_n 3, 1) := by decide +kernel
theorem dX6_call_3 : decode cX6_call 3 = .ok (.invokestatic 111, 3) := by decide +kernel
