theorem dX6_call_6 : decode cX6_call 6 = .ok (.ifCond .ne 12, 3) := by decide +kernel
theorem dX6_call_9 : decode cX6_call 9 = .ok (.aload_n 0, 1) := by decide +kernel
theorem dX6_call_10 : decode cX6_call 10 = .ok (.bipush (-2), 2) := by decide +kernel
theorem dX6_call_12 : decode cX6_call 12 = .ok (.bipush (-2), 2) := by decide +kernel
theorem dX6_call_14 : decode cX6_call 14 = .ok (.invokevirtual 56, 3) := by decide +kernel
theorem dX6_call_17 : decode cX6_call 17 = .ok (.ireturn, 1) := by decide +kernel
theorem dX6_call_18 : decode cX6_call 18 = .ok (.aload_n 0, 1) := by decide +kernel
theorem dX6_call_19 : decode cX6_call 19 = .ok (.getfield 37, 3) := by decide +kernel
theorem dX6_call_22 : decode cX6_call 22 = .ok (.aload_n 0, 1) := by decide +kernel
theorem dX6_call_23 : decode cX6_call 23 = .ok (.getfield 10, 3) := by decide +kernel
theorem dX6_call_26 : decode cX6_call 26 = .ok (.iload_n 1, 1) := by decide +kernel
theorem dX6_call_27 : decode cX6_call 27 = .ok (.iload_n 2, 1) := by decide +kernel
theorem dX6_call_28 : decode cX6_call 28 = .ok (.iload_n 3, 1) := by decide +kernel
theorem dX6_call_29 : decode cX6_call 29 = .ok (.invokevirtual 115, 3) := by decide +kernel
theorem dX6_call_32 : decode cX6_call 32 = .ok (.ireturn, 1) := by decide +kernel
set_option maxRecDepth 20000 in
theorem ggX6_whistle_X6_isCall : GoodIn wsX6_whistle wsX6_isCall := goodIn_r _ [8, 9, 10, 7, 11, 12, 13, 14, 15, 16, 17, 18] (by decide +kernel) (by decide +kernel)
set_option maxRecDepth 20000 in
theorem gX6_whistle_X6_isCall : GoodIn wsX6_whistle (va_wsS RX6 111 yX6_isCall wsX6_isCall) := goodIn_app (goodIn_of _ (by decide +kernel)) ggX6_whistle_X6_isCall
set_option maxRecDepth 20000 in
theorem ggX6_whistle_X6_refuse : GoodIn wsX6_whistle wsX6_refuse := goodIn_r _ [22, 23, 82, 83, 84, 85, 86, 87, 88, 89] (by decide +kernel) (by decide +kernel)
set_option maxRecDepth 20000 in
theorem gX6_whistle_X6_refuse : GoodIn wsX6_whistle (wsV RX6 56 RX6 yX6_refuse wsX6_refuse) := goodIn_app (goodIn_of _ (by decide +kernel)) ggX6_whistle_X6_refuse
set_option maxRecDepth 20000 in
theorem ggX6_whistle_X5_turners : GoodIn wsX6_whistle wsX5_turners := goodIn_r _ [28, 29, 30, 31, 32, 27, 33, 34, 35, 36, 37, 38, 39, 40, 41, 42, 43, 44, 45, 46, 47, 48, 49, 14, 50, 16, 17, 18, 51, 52, 53, 54, 55, 56, 57, 58, 59, 60, 61, 62, 63, 64, 65, 66, 67, 68, 69, 70, 71, 72, 73, 74, 75, 76, 77, 78, 79, 80, 81, 90, 91, 92, 93, 94, 95, 96, 97, 98, 99, 100, 101, 102, 103, 104, 105, 106, 107, 108, 109, 110, 111] (by decide +kernel) (by decide +kernel)
set_option maxRecDepth 20000 in
theorem gX6_whistle_X5_turners : GoodIn wsX6_whistle (wsV RX6 115 RX5 yX5_turners wsX5_turners) := goodIn_app (goodIn_of _ (by decide +kernel)) ggX6_whistle_X5_turners
theorem dX6_whistle_0 : decode cX6_whistle 0 = .ok (.iload_n 1, 1) := by decide +kernel
theorem dX6_whistle_1 : decode cX6_whistle 1 = .ok (.iload_n 2, 1) := by decide +kernel
theorem dX6_whistle_2 : decode cX6_whistle 2 = .ok (.iload_n 3, 1) := by decide +kernel
theorem dX6_whistle_3 : decode cX6_whistle 3 = .ok (.invokestatic 111, 3) := by decide +kernel
theorem dX6_whistle_6 : decode cX6_whistle 6 = .ok (.ifCond .ne 12, 3) := by decide +kernel
theorem dX6_whistle_9 : decode cX6_whistle 9 = .ok (.aload_n 0, 1) := by decide +kernel
theorem dX6_whistle_10 : decode cX6_whistle 10 = .ok (.bipush (-2), 2) := by decide +kernel
theorem dX6_whistle_12 : decode cX6_whistle 12 = .ok (.bipush (-2), 2) := by decide +kernel
theorem dX6_whistle_14 : decode cX6_whistle 14 = .ok (.invokevirtual 56, 3) := by decide +kernel
theorem dX6_whistle_17 : decode cX6_whistle 17 = .ok (.ireturn, 1) := by decide +kernel
theorem dX6_whistle_18 : decode cX6_whistle 18 = .ok (.aload_n 0, 1) := by decide +kernel
theorem dX6_whistle_19 : decode cX6_whistle 19 = .ok (.getfield 10, 3) := by decide +kernel
theorem dX6_whistle_22 : decode cX6_whistle 22 = .ok (.getfield 119, 3) := by decide +kernel
theorem dX6_whistle_25 : decode cX6_whistle 25 = .ok (.bipush 8, 2) := by decide +kernel
theorem dX6_whistle_27 : decode cX6_whistle 27 = .ok (.if_icmp .lt 12, 3) := by decide +kernel
theorem dX6_whistle_30 : decode cX6_whistle 30 = .ok (.aload_n 0, 1) := by decide +kernel
theorem dX6_whistle_31 : decode cX6_whistle 31 = .ok (.bipush (-4), 2) := by decide +kernel
theorem dX6_whistle_33 : decode cX6_whistle 33 = .ok (.bipush (-4), 2) := by decide +kernel
theorem dX6_whistle_35 : decode cX6_whistle 35 = .ok (.invokevirtual 56, 3) := by decide +kernel
theorem dX6_whistle_38 : decode cX6_whistle 38 = .ok (.ireturn, 1) := by decide +kernel
theorem dX6_whistle_39 : decode cX6_whistle 39 = .ok (.aload_n 0, 1) := by decide +kernel
theorem dX6_whistle_40 : decode cX6_whistle 40 = .ok (.getfield 10, 3) := by decide +kernel
theorem dX6_whistle_43 : decode cX6_whistle 43 = .ok (.getfield 122, 3) := by decide +kernel
theorem dX6_whistle_46 : decode cX6_whistle 46 = .ok (.aload_n 0, 1) := by decide +kernel
theorem dX6_whistle_47 : decode cX6_whistle 47 = .ok (.getfield 10, 3) := by decide +kernel
theorem dX6_whistle_50 : decode cX6_whistle 50 = .ok (.getfield 119, 3) := by decide +kernel
theorem dX6_whistle_53 : decode cX6_whistle 53 = .ok (.aload_n 0, 1) := by decide +kernel
theorem dX6_whistle_54 : decode cX6_whistle 54 = .ok (.getfield 37, 3) := by decide +kernel
theorem dX6_whistle_57 : decode cX6_whistle 57 = .ok (.aload_n 0, 1) := by decide +kernel
theorem dX6_whistle_58 : decode cX6_whistle 58 = .ok (.getfield 10, 3) := by decide +kernel
theorem dX6_whistle_61 : decode cX6_whistle 61 = .ok (.iload_n 1, 1) := by decide +kernel
theorem dX6_whistle_62 : decode cX6_whistle 62 = .ok (.iload_n 2, 1) := by decide +kernel
theorem dX6_whistle_63 : decode cX6_whistle 63 = .ok (.iload_n 3, 1) := by decide +kernel
theorem dX6_whistle_64 : decode cX6_whistle 64 = .ok (.invokevirtual 115, 3) := by decide +kernel
theorem dX6_whistle_67 : decode cX6_whistle 67 = .ok (.iastore, 1) := by decide +kernel
theorem dX6_whistle_68 : decode cX6_whistle 68 = .ok (.aload_n 0, 1) := by decide +kernel
theorem dX6_whistle_69 : decode cX6_whistle 69 = .ok (.getfield 10, 3) := by decide +kernel
theorem dX6_whistle_72 : decode cX6_whistle 72 = .ok (.dup, 1) := by decide +kernel
theorem dX6_whistle_73 : decode cX6_whistle 73 = .ok (.getfield 119, 3) := by decide +kernel
theorem dX6_whistle_76 : decode cX6_whistle 76 = .ok (.iconst 1, 1) := by decide +kernel
theorem dX6_whistle_77 : decode cX6_whistle 77 = .ok (.iadd, 1) := by decide +kernel
theorem dX6_whistle_78 : decode cX6_whistle 78 = .ok (.putfield 119, 3) := by decide +kernel
theorem dX6_whistle_81 : decode cX6_whistle 81 = .ok (.aload_n 0, 1) := by decide +kernel
theorem dX6_whistle_82 : decode cX6_whistle 82 = .ok (.getfield 10, 3) := by decide +kernel
theorem dX6_whistle_85 : decode cX6_whistle 85 = .ok (.getfield 119, 3) := by decide +kernel
theorem dX6_whistle_88 : decode cX6_whistle 88 = .ok (.iconst 1, 1) := by decide +kernel
theorem dX6_whistle_89 : decode cX6_whistle 89 = .ok (.isub, 1) := by decide +kernel
theorem dX6_whistle_90 : decode cX6_whistle 90 = .ok (.ireturn, 1) := by decide +kernel
set_option maxRecDepth 20000 in
theorem ggX6_turned_X6_isBelow : GoodIn wsX6_turned wsX6_isBelow := goodIn_r _ [7] (by decide +kernel) (by decide +kernel)
set_option maxRecDepth 20000 in
theorem gX6_turned_X6_isBelow : GoodIn wsX6_turned (va_wsS RX6 80 yX6_isBelow wsX6_isBelow) := goodIn_app (goodIn_of _ (by decide +kernel)) ggX6_turned_X6_isBelow
set_option maxRecDepth 20000 in
theorem ggX6_turned_X6_refuse : GoodIn wsX6_turned wsX6_refuse := goodIn_r _ [11, 12, 13, 14, 15, 16, 17, 18, 19, 20] (by decide +kernel) (by decide +kernel)
set_option maxRecDepth 20000 in
theorem gX6_turned_X6_refuse : GoodIn wsX6_turned (wsV RX6 56 RX6 yX6_refuse wsX6_refuse) := goodIn_app (goodIn_of _ (by decide +kernel)) ggX6_turned_X6_refuse
theorem dX6_turned_0 : decode cX6_turned 0 = .ok (.iload_n 1, 1) := by decide +kernel
theorem dX6_turned_1 : decode cX6_turned 1 = .ok (.aload_n 0, 1) := by decide +kernel
theorem dX6_turned_2 : decode cX6_turned 2 = .ok (.getfield 10, 3) := by decide +kernel
theorem dX6_turned_5 : decode cX6_turned 5 = .ok (.getfield 119, 3) := by decide +kernel
theorem dX6_turned_8 : decode cX6_turned 8 = .ok (.invokestatic 80, 3) := by decide +kernel
theorem dX6_turned_11 : decode cX6_turned 11 = .ok (.ifCond .ne 12, 3) := by decide +kernel
theorem dX6_turned_14 : decode cX6_turned 14 = .ok (.aload_n 0, 1) := by decide +kernel
theorem dX6_turned_15 : decode cX6_turned 15 = .ok (.bipush (-2), 2) := by decide +kernel
theorem dX6_turned_17 : decode cX6_turned 17 = .ok (.bipush (-2), 2) := by decide +kernel
theorem dX6_turned_19 : decode cX6_turned 19 = .ok (.invokevirtual 56, 3) := by decide +kernel
theorem dX6_turned_22 : decode cX6_turned 22 = .ok (.ireturn, 1) := by decide +kernel
theorem dX6_turned_23 : decode cX6_turned 23 = .ok (.aload_n 0, 1) := by decide +kernel
theorem dX6_turned_24 : decode cX6_turned 24 = .ok (.getfield 10, 3) := by decide +kernel
theorem dX6_turned_27 : decode cX6_turned 27 = .ok (.getfield 122, 3) := by decide +kernel
theorem dX6_turned_30 : decode cX6_turned 30 = .ok (.iload_n 1, 1) := by decide +kernel
theorem dX6_turned_31 : decode cX6_turned 31 = .ok (.iaload, 1) := by decide +kernel
theorem dX6_turned_32 : decode cX6_turned 32 = .ok (.ireturn, 1) := by decide +kernel
set_option maxRecDepth 20000 in
theorem ggX6_heardOf_X0_isPerson : GoodIn wsX6_heardOf wsX0_isPerson := goodIn_r _ [8, 9, 10, 11, 12, 26, 27, 28, 29, 30, 31, 32, 33, 34, 35, 36] (by decide +kernel) (by decide +kernel)
set_option maxRecDepth 20000 in
theorem gX6_heardOf_X0_isPerson : GoodIn wsX6_heardOf (wsV RX6 68 RX0 yX0_isPerson wsX0_isPerson) := goodIn_app (goodIn_of _ (by decide +kernel)) ggX6_heardOf_X0_isPerson
set_option maxRecDepth 20000 in
theorem ggX6_heardOf_X6_refuse : GoodIn wsX6_heardOf wsX6_refuse := goodIn_r _ [16, 17, 18, 19, 20, 21, 22, 23, 24, 25] (by decide +kernel) (by decide +kernel)
set_option maxRecDepth 20000 in
theorem gX6_heardOf_X6_refuse : GoodIn wsX6_heardOf (wsV RX6 56 RX6 yX6_refuse wsX6_refuse) := goodIn_app (goodIn_of _ (by decide +kernel)) ggX6_heardOf_X6_refuse
theorem dX6_heardOf_0 : decode cX6_heardOf 0 = .ok (.aload_n 0, 1) := by decide +kernel
theorem dX6_heardOf_1 : decode cX6_heardOf 1 = .ok (.getfield 10, 3) := by decide +kernel
theorem dX6_heardOf_4 : decode cX6_heardOf 4 = .ok (.iload_n 1, 1) := by decide +kernel
theorem dX6_heardOf_5 : decode cX6_heardOf 5 = .ok (.invokevirtual 68, 3) := by decide +kernel
theorem dX6_heardOf_8 : decode cX6_heardOf 8 = .ok (.ifCond .ne 12, 3) := by decide +kernel
theorem dX6_heardOf_11 : decode cX6_heardOf 11 = .ok (.aload_n 0, 1) := by decide +kernel
theorem dX6_heardOf_12 : decode cX6_heardOf 12 = .ok (.bipush (-2), 2) := by decide +kernel
theorem dX6_heardOf_14 : decode cX6_heardOf 14 = .ok (.bipush (-2), 2) := by decide +kernel
theorem dX6_heardOf_16 : decode cX6_heardOf 16 = .ok (.invokevirtual 56, 3) := by decide +kernel
theorem dX6_heardOf_19 : decode cX6_heardOf 19 = .ok (.ireturn, 1) := by decide +kernel
theorem dX6_heardOf_20 : decode cX6_heardOf 20 = .ok (.iconst 0, 1) := by decide +kernel
theorem dX6_heardOf_21 : decode cX6_heardOf 21 = .ok (.istore_n 2, 1) := by decide +kernel
theorem dX6_heardOf_22 : decode cX6_heardOf 22 = .ok (.iconst 0, 1) := by decide +kernel
theorem dX6_heardOf_23 : decode cX6_heardOf 23 = .ok (.istore_n 3, 1) := by decide +kernel
theorem dX6_heardOf_24 : decode cX6_heardOf 24 = .ok (.iload_n 3, 1) := by decide +kernel
theorem dX6_heardOf_25 : decode cX6_heardOf 25 = .ok (.aload_n 0, 1) := by decide +kernel
theorem dX6_heardOf_26 : decode cX6_heardOf 26 = .ok (.getfield 10, 3) := by decide +kernel
theorem dX6_heardOf_29 : decode cX6_heardOf 29 = .ok (.getfield 119, 3) := by decide +kernel
theorem dX6_heardOf_32 : decode cX6_heardOf 32 = .ok (.if_icmp .ge 25, 3) := by decide +kernel
theorem dX6_heardOf_35 : decode cX6_heardOf 35 = .ok (.iload_n 2, 1) := by decide +kernel
theorem dX6_heardOf_36 : decode cX6_heardOf 36 = .ok (.aload_n 0, 1) := by decide +kernel
theorem dX6_heardOf_37 : decode cX6_heardOf 37 = .ok (.getfield 10, 3) := by decide +kernel
theorem dX6_heardOf_40 : decode cX6_heardOf 40 = .ok (.getfield 122, 3) := by decide +kernel
theorem dX6_heardOf_43 : decode cX6_heardOf 43 = .ok (.iload_n 3, 1) := by decide +kernel
theorem dX6_heardOf_44 : decode cX6_heardOf 44 = .ok (.iaload, 1) := by decide +kernel
theorem dX6_heardOf_45 : decode cX6_heardOf 45 = .ok (.iload_n 1, 1) := by decide +kernel
theorem dX6_heardOf_46 : decode cX6_heardOf 46 = .ok (.ishr, 1) := by decide +kernel
theorem dX6_heardOf_47 : decode cX6_heardOf 47 = .ok (.iconst 1, 1) := by decide +kernel
theorem dX6_heardOf_48 : decode cX6_heardOf 48 = .ok (.iand, 1) := by decide +kernel
theorem dX6_heardOf_49 : decode cX6_heardOf 49 = .ok (.iadd, 1) := by decide +kernel
theorem dX6_heardOf_50 : decode cX6_heardOf 50 = .ok (.istore_n 2, 1) := by decide +kernel
theorem dX6_heardOf_51 : decode cX6_heardOf 51 = .ok (.iinc 3 1, 3) := by decide +kernel
theorem dX6_heardOf_54 : decode cX6_heardOf 54 = .ok (.goto (-30), 3) := by decide +kernel
theorem dX6_heardOf_57 : decode cX6_heardOf 57 = .ok (.iload_n 2, 1) := by decide +kernel
theorem dX6_heardOf_58 : decode cX6_heardOf 58 = .ok (.ireturn, 1) := by decide +kernel
set_option maxRecDepth 20000 in
theorem ggX6_undo_X6_refuse : GoodIn wsX6_undo wsX6_refuse := goodIn_r _ [7, 8, 9, 10, 11, 12, 13, 14, 15, 16] (by decide +kernel) (by decide +kernel)
set_option maxRecDepth 20000 in
theorem gX6_undo_X6_refuse : GoodIn wsX6_undo (wsV RX6 56 RX6 yX6_refuse wsX6_refuse) := goodIn_app (goodIn_of _ (by decide +kernel)) ggX6_undo_X6_refuse
theorem dX6_undo_0 : decode cX6_undo 0 = .ok (.aload_n 0, 1) := by decide +kernel
theorem dX6_undo_1 : decode cX6_undo 1 = .ok (.getfield 10, 3) := by decide +kernel
theorem dX6_undo_4 : decode cX6_undo 4 = .ok (.getfield 119, 3) := by decide +kernel
theorem dX6_undo_7 : decode cX6_undo 7 = .ok (.iconst 1, 1) := by decide +kernel
theorem dX6_undo_8 : decode cX6_undo 8 = .ok (.if_icmp .ge 12, 3) := by decide +kernel
theorem dX6_undo_11 : decode cX6_undo 11 = .ok (.aload_n 0, 1) := by decide +kernel
theorem dX6_undo_12 : decode cX6_undo 12 = .ok (.bipush (-3), 2) := by decide +kernel
theorem dX6_undo_14 : decode cX6_undo 14 = .ok (.bipush (-3), 2) := by decide +kernel
theorem dX6_undo_16 : decode cX6_undo 16 = .ok (.invokevirtual 56, 3) := by decide +kernel
theorem dX6_undo_19 : decode cX6_undo 19 = .ok (.ireturn, 1) := by decide +kernel
theorem dX6_undo_20 : decode cX6_undo 20 = .ok (.aload_n 0, 1) := by decide +kernel
theorem dX6_undo_21 : decode cX6_undo 21 = .ok (.getfield 10, 3) := by decide +kernel
theorem dX6_undo_24 : decode cX6_undo 24 = .ok (.dup, 1) := by decide +kernel
theorem dX6_undo_25 : decode cX6_undo 25 = .ok (.getfield 119, 3) := by decide +kernel
theorem dX6_undo_28 : decode cX6_undo 28 = .ok (.iconst 1, 1) := by decide +kernel
theorem dX6_undo_29 : decode cX6_undo 29 = .ok (.isub, 1) := by decide +kernel
theorem dX6_undo_30 : decode cX6_undo 30 = .ok (.putfield 119, 3) := by decide +kernel
theorem dX6_undo_33 : decode cX6_undo 33 = .ok (.aload_n 0, 1) := by decide +kernel
theorem dX6_undo_34 : decode cX6_undo 34 = .ok (.getfield 10, 3) := by decide +kernel
theorem dX6_undo_37 : decode cX6_undo 37 = .ok (.getfield 119, 3) := by decide +kernel
theorem dX6_undo_40 : decode cX6_undo 40 = .ok (.ireturn, 1) := by decide +kernel
set_option maxRecDepth 20000 in
theorem ggX6_taken_X0_isPerson : GoodIn wsX6_taken wsX0_isPerson := goodIn_r _ [7, 8, 9, 10, 11, 89, 90, 91, 92, 93, 94, 95, 96, 97, 98, 99] (by decide +kernel) (by decide +kernel)
set_option maxRecDepth 20000 in
theorem gX6_taken_X0_isPerson : GoodIn wsX6_taken (wsV RX6 68 RX0 yX0_isPerson wsX0_isPerson) := goodIn_app (goodIn_of _ (by decide +kernel)) ggX6_taken_X0_isPerson
set_option maxRecDepth 20000 in
theorem ggX6_taken_X6_refuse : GoodIn wsX6_taken wsX6_refuse := goodIn_r _ [15, 16, 81, 82, 83, 84, 85, 86, 87, 88] (by decide +kernel) (by decide +kernel)
set_option maxRecDepth 20000 in
theorem gX6_taken_X6_refuse : GoodIn wsX6_taken (wsV RX6 56 RX6 yX6_refuse wsX6_refuse) := goodIn_app (goodIn_of _ (by decide +kernel)) ggX6_taken_X6_refuse
set_option maxRecDepth 20000 in
theorem ggX6_taken_X5_isTakenFor : GoodIn wsX6_taken wsX5_isTakenFor := goodIn_r _ [21, 22, 23, 24, 25, 26, 6, 27, 28, 29, 30, 31, 32, 33, 34, 35, 36, 37, 38, 39, 20, 40, 41, 42, 43, 44, 45, 46, 47, 48, 49, 50, 51, 52, 53, 54, 55, 56, 57, 58, 59, 60, 61, 62, 63, 64, 65, 66, 67, 68, 69, 70, 71, 72, 73, 74, 75, 76, 77, 78, 79, 80, 89, 90, 91, 92, 93, 94, 95, 96, 97, 98, 99, 100, 101, 102, 103, 104, 105, 106, 107, 108, 109, 110] (by decide +kernel) (by decide +kernel)
set_option maxRecDepth 20000 in
theorem gX6_taken_X5_isTakenFor : GoodIn wsX6_taken (wsV RX6 124 RX5 yX5_isTakenFor wsX5_isTakenFor) := goodIn_app (goodIn_of _ (by decide +kernel)) ggX6_taken_X5_isTakenFor
theorem dX6_taken_0 : decode cX6_taken 0 = .ok (.aload_n 0, 1) := by decide +kernel
theorem dX6_taken_1 : decode cX6_taken 1 = .ok (.getfield 10, 3) := by decide +kernel
theorem dX6_taken_4 : decode cX6_taken 4 = .ok (.iload_n 1, 1) := by decide +kernel
theorem dX6_taken_5 : decode cX6_taken 5 = .ok (.invokevirtual 68, 3) := by decide +kernel
theorem dX6_taken_8 : decode cX6_taken 8 = .ok (.ifCond .eq 19, 3) := by decide +kernel
theorem dX6_taken_11 : decode cX6_taken 11 = .ok (.aload_n 0, 1) := by decide +kernel
theorem dX6_taken_12 : decode cX6_taken 12 = .ok (.getfield 10, 3) := by decide +kernel
theorem dX6_taken_15 : decode cX6_taken 15 = .ok (.iload_n 2, 1) := by decide +kernel
theorem dX6_taken_16 : decode cX6_taken 16 = .ok (.invokevirtual 68, 3) := by decide +kernel
theorem dX6_taken_19 : decode cX6_taken 19 = .ok (.ifCond .eq 8, 3) := by decide +kernel
theorem dX6_taken_22 : decode cX6_taken 22 = .ok (.iload_n 1, 1) := by decide +kernel
theorem dX6_taken_23 : decode cX6_taken 23 = .ok (.iload_n 2, 1) := by decide +kernel
theorem dX6_taken_24 : decode cX6_taken 24 = .ok (.if_icmp .ne 12, 3) := by decide +kernel
theorem dX6_taken_27 : decode cX6_taken 27 = .ok (.aload_n 0, 1) := by decide +kernel
theorem dX6_taken_28 : decode cX6_taken 28 = .ok (.bipush (-2), 2) := by decide +kernel
theorem dX6_taken_30 : decode cX6_taken 30 = .ok (.bipush (-2), 2) := by decide +kernel
theorem dX6_taken_32 : decode cX6_taken 32 = .ok (.invokevirtual 56, 3) := by decide +kernel
theorem dX6_taken_35 : decode cX6_taken 35 = .ok (.ireturn, 1) := by decide +kernel
theorem dX6_taken_36 : decode cX6_taken 36 = .ok (.aload_n 0, 1) := by decide +kernel
theorem dX6_taken_37 : decode cX6_taken 37 = .ok (.getfield 37, 3) := by decide +kernel
theorem dX6_taken_40 : decode cX6_taken 40 = .ok (.aload_n 0, 1) := by decide +kernel
theorem dX6_taken_41 : decode cX6_taken 41 = .ok (.getfield 10, 3) := by decide +kernel
theorem dX6_taken_44 : decode cX6_taken 44 = .ok (.iload_n 1, 1) := by decide +kernel
theorem dX6_taken_45 : decode cX6_taken 45 = .ok (.iload_n 2, 1) := by decide +kernel
theorem dX6_taken_46 : decode cX6_taken 46 = .ok (.invokevirtual 124, 3) := by decide +kernel
theorem dX6_taken_49 : decode cX6_taken 49 = .ok (.ifCond .eq 7, 3) := by decide +kernel
theorem dX6_taken_52 : decode cX6_taken 52 = .ok (.iconst 1, 1) := by decide +kernel
theorem dX6_taken_53 : decode cX6_taken 53 = .ok (.goto 4, 3) := by decide +kernel
theorem dX6_taken_56 : decode cX6_taken 56 = .ok (.iconst 0, 1) := by decide +kernel
theorem dX6_taken_57 : decode cX6_taken 57 = .ok (.ireturn, 1) := by decide +kernel
set_option maxRecDepth 20000 in
theorem ggX6_clash_X6_isBelow : GoodIn wsX6_clash wsX6_isBelow := goodIn_r _ [8] (by decide +kernel) (by decide +kernel)
set_option maxRecDepth 20000 in
theorem gX6_clash_X6_isBelow : GoodIn wsX6_clash (va_wsS RX6 80 yX6_isBelow wsX6_isBelow) := goodIn_app (goodIn_of _ (by decide +kernel)) ggX6_clash_X6_isBelow
set_option maxRecDepth 20000 in
theorem ggX6_clash_X6_refuse : GoodIn wsX6_clash wsX6_refuse := goodIn_r _ [12, 13, 85, 86, 87, 88, 89, 90, 91, 92] (by decide +kernel) (by decide +kernel)
set_option maxRecDepth 20000 in
theorem gX6_clash_X6_refuse : GoodIn wsX6_clash (wsV RX6 56 RX6 yX6_refuse wsX6_refuse) := goodIn_app (goodIn_of _ (by decide +kernel)) ggX6_clash_X6_refuse
set_option maxRecDepth 20000 in
theorem ggX6_clash_X5_findClashes : GoodIn wsX6_clash wsX5_findClashes := goodIn_r _ [18, 19, 20, 21, 22, 23, 17, 24, 25, 26, 27, 28, 29, 30, 31, 32, 33, 34, 35, 36, 37, 38, 39, 40, 41, 42, 43, 44, 45, 46, 47, 48, 49, 50, 51, 52, 53, 54, 55, 56, 57, 58, 59, 60, 61, 62, 63, 64, 65, 66, 67, 68, 69, 70, 71, 72, 73, 74, 75, 76, 77, 78, 79, 80, 81, 82, 83, 84, 93, 94, 95, 96, 97, 98, 99, 100, 101, 102, 103, 104, 105, 106, 107, 108, 109, 110, 111, 112, 113, 114] (by decide +kernel) (by decide +kernel)
set_option maxRecDepth 20000 in
theorem gX6_clash_X5_findClashes : GoodIn wsX6_clash (wsV RX6 128 RX5 yX5_findClashes wsX5_findClashes) := goodIn_app (goodIn_of _ (by decide +kernel)) ggX6_clash_X5_findClashes
theorem dX6_clash_0 : decode cX6_clash 0 = .ok (.iload_n 1, 1) := by decide +kernel
theorem dX6_clash_1 : decode cX6_clash 1 = .ok (.iconst 2, 1) := by decide +kernel
theorem dX6_clash_2 : decode cX6_clash 2 = .ok (.invokestatic 80, 3) := by decide +kernel
theorem dX6_clash_5 : decode cX6_clash 5 = .ok (.ifCond .ne 12, 3) := by decide +kernel
theorem dX6_clash_8 : decode cX6_clash 8 = .ok (.aload_n 0, 1) := by decide +kernel
theorem dX6_clash_9 : decode cX6_clash 9 = .ok (.bipush (-2), 2) := by decide +kernel
theorem dX6_clash_11 : decode cX6_clash 11 = .ok (.bipush (-2), 2) := by decide +kernel
theorem dX6_clash_13 : decode cX6_clash 13 = .ok (.invokevirtual 56, 3) := by decide +kernel
theorem dX6_clash_16 : decode cX6_clash 16 = .ok (.ireturn, 1) := by decide +kernel
theorem dX6_clash_17 : decode cX6_clash 17 = .ok (.aload_n 0, 1) := by decide +kernel
theorem dX6_clash_18 : decode cX6_clash 18 = .ok (.getfield 37, 3) := by decide +kernel
theorem dX6_clash_21 : decode cX6_clash 21 = .ok (.aload_n 0, 1) := by decide +kernel
theorem dX6_clash_22 : decode cX6_clash 22 = .ok (.getfield 10, 3) := by decide +kernel
theorem dX6_clash_25 : decode cX6_clash 25 = .ok (.invokevirtual 128, 3) := by decide +kernel
theorem dX6_clash_28 : decode cX6_clash 28 = .ok (.iconst 0, 1) := by decide +kernel
theorem dX6_clash_29 : decode cX6_clash 29 = .ok (.istore_n 2, 1) := by decide +kernel
theorem dX6_clash_30 : decode cX6_clash 30 = .ok (.iconst (-1), 1) := by decide +kernel
theorem dX6_clash_31 : decode cX6_clash 31 = .ok (.istore_n 3, 1) := by decide +kernel
theorem dX6_clash_32 : decode cX6_clash 32 = .ok (.iconst 0, 1) := by decide +kernel
theorem dX6_clash_33 : decode cX6_clash 33 = .ok (.istore 4, 2) := by decide +kernel
theorem dX6_clash_35 : decode cX6_clash 35 = .ok (.iload 4, 2) := by decide +kernel
theorem dX6_clash_37 : decode cX6_clash 37 = .ok (.aload_n 0, 1) := by decide +kernel
theorem dX6_clash_38 : decode cX6_clash 38 = .ok (.getfield 10, 3) := by decide +kernel
theorem dX6_clash_41 : decode cX6_clash 41 = .ok (.getfield 132, 3) := by decide +kernel
theorem dX6_clash_44 : decode cX6_clash 44 = .ok (.if_icmp .ge 72, 3) := by decide +kernel
theorem dX6_clash_47 : decode cX6_clash 47 = .ok (.iload 4, 2) := by decide +kernel
theorem dX6_clash_49 : decode cX6_clash 49 = .ok (.iconst 1, 1) := by decide +kernel
theorem dX6_clash_50 : decode cX6_clash 50 = .ok (.iadd, 1) := by decide +kernel
theorem dX6_clash_51 : decode cX6_clash 51 = .ok (.istore 5, 2) := by decide +kernel
theorem dX6_clash_53 : decode cX6_clash 53 = .ok (.iload 5, 2) := by decide +kernel
theorem dX6_clash_55 : decode cX6_clash 55 = .ok (.aload_n 0, 1) := by decide +kernel
theorem dX6_clash_56 : decode cX6_clash 56 = .ok (.getfield 10, 3) := by decide +kernel
theorem dX6_clash_59 : decode cX6_clash 59 = .ok (.getfield 132, 3) := by decide +kernel
theorem dX6_clash_62 : decode cX6_clash 62 = .ok (.if_icmp .ge 48, 3) := by decide +kernel
theorem dX6_clash_65 : decode cX6_clash 65 = .ok (.aload_n 0, 1) := by decide +kernel
theorem dX6_clash_66 : decode cX6_clash 66 = .ok (.getfield 37, 3) := by decide +kernel
theorem dX6_clash_69 : decode cX6_clash 69 = .ok (.getfield 135, 3) := by decide +kernel
theorem dX6_clash_72 : decode cX6_clash 72 = .ok (.iload 4, 2) := by decide +kernel
theorem dX6_clash_74 : decode cX6_clash 74 = .ok (.iaload, 1) := by decide +kernel
theorem dX6_clash_75 : decode cX6_clash 75 = .ok (.iload 5, 2) := by decide +kernel
theorem dX6_clash_77 : decode cX6_clash 77 = .ok (.ishr, 1) := by decide +kernel
theorem dX6_clash_78 : decode cX6_clash 78 = .ok (.iconst 1, 1) := by decide +kernel
theorem dX6_clash_79 : decode cX6_clash 79 = .ok (.iand, 1) := by decide +kernel
theorem dX6_clash_80 : decode cX6_clash 80 = .ok (.ifCond .eq 24, 3) := by decide +kernel
theorem dX6_clash_83 : decode cX6_clash 83 = .ok (.iload_n 3, 1) := by decide +kernel
theorem dX6_clash_84 : decode cX6_clash 84 = .ok (.iconst (-1), 1) := by decide +kernel
theorem dX6_clash_85 : decode cX6_clash 85 = .ok (.if_icmp .ne 14, 3) := by decide +kernel
theorem dX6_clash_88 : decode cX6_clash 88 = .ok (.bipush 10, 2) := by decide +kernel
theorem dX6_clash_90 : decode cX6_clash 90 = .ok (.iload 4, 2) := by decide +kernel
theorem dX6_clash_92 : decode cX6_clash 92 = .ok (.imul, 1) := by decide +kernel
theorem dX6_clash_93 : decode cX6_clash 93 = .ok (.iload 5, 2) := by decide +kernel
theorem dX6_clash_95 : decode cX6_clash 95 = .ok (.iadd, 1) := by decide +kernel
theorem dX6_clash_96 : decode cX6_clash 96 = .ok (.goto 4, 3) := by decide +kernel
theorem dX6_clash_99 : decode cX6_clash 99 = .ok (.iload_n 3, 1) := by decide +kernel
theorem dX6_clash_100 : decode cX6_clash 100 = .ok (.istore_n 3, 1) := by decide +kernel
theorem dX6_clash_101 : decode cX6_clash 101 = .ok (.iinc 2 1, 3) := by decide +kernel
theorem dX6_clash_104 : decode cX6_clash 104 = .ok (.iinc 5 1, 3) := by decide +kernel
theorem dX6_clash_107 : decode cX6_clash 107 = .ok (.goto (-54), 3) := by decide +kernel
theorem dX6_clash_110 : decode cX6_clash 110 = .ok (.iinc 4 1, 3) := by decide +kernel
theorem dX6_clash_113 : decode cX6_clash 113 = .ok (.goto (-78), 3) := by decide +kernel
theorem dX6_clash_116 : decode cX6_clash 116 = .ok (.iload_n 1, 1) := by decide +kernel
theorem dX6_clash_117 : decode cX6_clash 117 = .ok (.ifCond .ne 5, 3) := by decide +kernel
theorem dX6_clash_120 : decode cX6_clash 120 = .ok (.iload_n 2, 1) := by decide +kernel
theorem dX6_clash_121 : decode cX6_clash 121 = .ok (.ireturn, 1) := by decide +kernel
theorem dX6_clash_122 : decode cX6_clash 122 = .ok (.iload_n 2, 1) := by decide +kernel
theorem dX6_clash_123 : decode cX6_clash 123 = .ok (.ifCond .ne 14, 3) := by decide +kernel
theorem dX6_clash_126 : decode cX6_clash 126 = .ok (.aload_n 0, 1) := by decide +kernel
theorem dX6_clash_127 : decode cX6_clash 127 = .ok (.bipush (-3), 2) := by decide +kernel
theorem dX6_clash_129 : decode cX6_clash 129 = .ok (.bipush (-3), 2) := by decide +kernel
theorem dX6_clash_131 : decode cX6_clash 131 = .ok (.invokevirtual 56, 3) := by decide +kernel
theorem dX6_clash_134 : decode cX6_clash 134 = .ok (.goto 4, 3) := by decide +kernel
theorem dX6_clash_137 : decode cX6_clash 137 = .ok (.iload_n 3, 1) := by decide +kernel
theorem dX6_clash_138 : decode cX6_clash 138 = .ok (.ireturn, 1) := by decide +kernel
set_option maxRecDepth 20000 in
theorem ggX6_alter_X5_findClashes : GoodIn wsX6_alter wsX5_findClashes := goodIn_r _ [8, 9, 10, 11, 12, 13, 7, 14, 15, 16, 17, 18, 19, 20, 21, 22, 23, 24, 25, 26, 27, 28, 29, 30, 31, 32, 33, 34, 35, 36, 37, 38, 39, 40, 41, 42, 43, 44, 45, 46, 47, 48, 49, 50, 51, 52, 53, 54, 55, 56, 57, 58, 59, 60, 61, 62, 63, 64, 65, 66, 67, 68, 69, 70, 71, 72, 73, 74, 98, 99, 100, 101, 102, 103, 104, 105, 106, 107, 108, 109, 110, 111, 112, 113, 114, 115, 116, 117, 118, 119] (by decide +kernel) (by decide +kernel)
set_option maxRecDepth 20000 in
theorem gX6_alter_X5_findClashes : GoodIn wsX6_alter (wsV RX6 128 RX5 yX5_findClashes wsX5_findClashes) := goodIn_app (goodIn_of _ (by decide +kernel)) ggX6_alter_X5_findClashes
set_option maxRecDepth 20000 in
theorem ggX6_alter_X5_fewestInEachPair : GoodIn wsX6_alter wsX5_fewestInEachPair := goodIn_r _ [78, 79, 80, 81, 82, 83, 84, 85, 86, 87, 88, 7, 89, 10, 109, 110, 111, 112, 113, 114, 115] (by decide +kernel) (by decide +kernel)
set_option maxRecDepth 20000 in
theorem gX6_alter_X5_fewestInEachPair : GoodIn wsX6_alter (wsV RX6 138 RX5 yX5_fewestInEachPair wsX5_fewestInEachPair) := goodIn_app (goodIn_of _ (by decide +kernel)) ggX6_alter_X5_fewestInEachPair
theorem dX6_alter_0 : decode cX6_alter 0 = .ok (.aload_n 0, 1) := by decide +kernel
theorem dX6_alter_1 : decode cX6_alter 1 = .ok (.getfield 37, 3) := by decide +kernel
theorem dX6_alter_4 : decode cX6_alter 4 = .ok (.aload_n 0, 1) := by decide +kernel
theorem dX6_alter_5 : decode cX6_alter 5 = .ok (.getfield 10, 3) := by decide +kernel
theorem dX6_alter_8 : decode cX6_alter 8 = .ok (.invokevirtual 128, 3) := by decide +kernel
theorem dX6_alter_11 : decode cX6_alter 11 = .ok (.aload_n 0, 1) := by decide +kernel
theorem dX6_alter_12 : decode cX6_alter 12 = .ok (.getfield 37, 3) := by decide +kernel
theorem dX6_alter_15 : decode cX6_alter 15 = .ok (.aload_n 0, 1) := by decide +kernel
theorem dX6_alter_16 : decode cX6_alter 16 = .ok (.getfield 10, 3) := by decide +kernel
theorem dX6_alter_19 : decode cX6_alter 19 = .ok (.getfield 132, 3) := by decide +kernel
theorem dX6_alter_22 : decode cX6_alter 22 = .ok (.invokevirtual 138, 3) := by decide +kernel
theorem dX6_alter_25 : decode cX6_alter 25 = .ok (.ireturn, 1) := by decide +kernel
set_option maxRecDepth 20000 in
theorem ggX6_names_X0_isPerson : GoodIn wsX6_names wsX0_isPerson := goodIn_r _ [10, 11, 12, 13, 14, 148, 149, 150, 151, 152, 153, 154, 155, 156, 157, 158] (by decide +kernel) (by decide +kernel)
set_option maxRecDepth 20000 in
theorem gX6_names_X0_isPerson : GoodIn wsX6_names (wsV RX6 68 RX0 yX0_isPerson wsX0_isPerson) := goodIn_app (goodIn_of _ (by decide +kernel)) ggX6_names_X0_isPerson
set_option maxRecDepth 20000 in
theorem ggX6_names_X6_refuse : GoodIn wsX6_names wsX6_refuse := goodIn_r _ [18, 19, 140, 141, 142, 143, 144, 145, 146, 147] (by decide +kernel) (by decide +kernel)
set_option maxRecDepth 20000 in
theorem gX6_names_X6_refuse : GoodIn wsX6_names (wsV RX6 56 RX6 yX6_refuse wsX6_refuse) := goodIn_app (goodIn_of _ (by decide +kernel)) ggX6_names_X6_refuse
set_option maxRecDepth 20000 in
theorem ggX6_names_X2_find : GoodIn wsX6_names wsX2_find := goodIn_r _ [24, 25, 26, 27, 28, 29, 30, 31, 32, 23, 33, 34, 35, 36, 37, 38, 39, 40, 41, 42, 43, 44, 45, 46, 47, 48, 49, 50, 51, 52, 53, 54, 55, 56, 57, 58, 59, 60, 61, 62, 63, 64, 65, 66, 67, 68, 69, 70, 71, 72, 73, 74, 75, 76, 77, 78, 79, 80, 81, 82, 83, 84, 85, 86, 87, 88, 89, 90, 91, 92, 93, 94, 9, 95, 96, 97, 98, 99, 100, 101, 102, 103, 104, 105, 106, 107, 108, 109, 110, 111, 112, 113, 114, 115, 116, 117, 118, 119, 120, 121, 122, 123, 124, 125, 126, 127, 128, 129, 130, 131, 132, 133, 134, 135, 136, 137, 138, 148, 149, 150, 151, 152, 153, 154, 155, 156, 157, 158, 159, 160, 161, 162, 163, 164, 165, 166, 167, 168, 169, 170, 171, 172] (by decide +kernel) (by decide +kernel)
set_option maxRecDepth 20000 in
theorem gX6_names_X2_find : GoodIn wsX6_names (wsV RX6 141 RX2 yX2_find wsX2_find) := goodIn_app (goodIn_of _ (by decide +kernel)) ggX6_names_X2_find
set_option maxRecDepth 20000 in
theorem ggX6_names_X2_shortTune : GoodIn wsX6_names wsX2_shortTune := goodIn_r _ [37] (by decide +kernel) (by decide +kernel)
set_option maxRecDepth 20000 in
theorem gX6_names_X2_shortTune : GoodIn wsX6_names (va_wsS RX6 151 yX2_shortTune wsX2_shortTune) := goodIn_app (goodIn_of _ (by decide +kernel)) ggX6_names_X2_shortTune
theorem dX6_names_0 : decode cX6_names 0 = .ok (.iload_n 1, 1) := by decide +kernel
theorem dX6_names_1 : decode cX6_names 1 = .ok (.iconst (-1), 1) := by decide +kernel
theorem dX6_names_2 : decode cX6_names 2 = .ok (.if_icmp .eq 23, 3) := by decide +kernel
theorem dX6_names_5 : decode cX6_names 5 = .ok (.aload_n 0, 1) := by decide +kernel
theorem dX6_names_6 : decode cX6_names 6 = .ok (.getfield 10, 3) := by decide +kernel
theorem dX6_names_9 : decode cX6_names 9 = .ok (.iload_n 1, 1) := by decide +kernel
theorem dX6_names_10 : decode cX6_names 10 = .ok (.invokevirtual 68, 3) := by decide +kernel
theorem dX6_names_13 : decode cX6_names 13 = .ok (.ifCond .ne 12, 3) := by decide +kernel
theorem dX6_names_16 : decode cX6_names 16 = .ok (.aload_n 0, 1) := by decide +kernel
theorem dX6_names_17 : decode cX6_names 17 = .ok (.bipush (-2), 2) := by decide +kernel
theorem dX6_names_19 : decode cX6_names 19 = .ok (.bipush (-10), 2) := by decide +kernel
theorem dX6_names_21 : decode cX6_names 21 = .ok (.invokevirtual 56, 3) := by decide +kernel
theorem dX6_names_24 : decode cX6_names 24 = .ok (.ireturn, 1) := by decide +kernel
theorem dX6_names_25 : decode cX6_names 25 = .ok (.aload_n 0, 1) := by decide +kernel
theorem dX6_names_26 : decode cX6_names 26 = .ok (.getfield 10, 3) := by decide +kernel
theorem dX6_names_29 : decode cX6_names 29 = .ok (.getfield 132, 3) := by decide +kernel
theorem dX6_names_32 : decode cX6_names 32 = .ok (.iconst 5, 1) := by decide +kernel
theorem dX6_names_33 : decode cX6_names 33 = .ok (.if_icmp .le 12, 3) := by decide +kernel
theorem dX6_names_36 : decode cX6_names 36 = .ok (.aload_n 0, 1) := by decide +kernel
theorem dX6_names_37 : decode cX6_names 37 = .ok (.bipush (-3), 2) := by decide +kernel
theorem dX6_names_39 : decode cX6_names 39 = .ok (.bipush (-20), 2) := by decide +kernel
theorem dX6_names_41 : decode cX6_names 41 = .ok (.invokevirtual 56, 3) := by decide +kernel
theorem dX6_names_44 : decode cX6_names 44 = .ok (.ireturn, 1) := by decide +kernel
theorem dX6_names_45 : decode cX6_names 45 = .ok (.aload_n 0, 1) := by decide +kernel
theorem dX6_names_46 : decode cX6_names 46 = .ok (.getfield 44, 3) := by decide +kernel
theorem dX6_names_49 : decode cX6_names 49 = .ok (.aload_n 0, 1) := by decide +kernel
theorem dX6_names_50 : decode cX6_names 50 = .ok (.getfield 10, 3) := by decide +kernel
theorem dX6_names_53 : decode cX6_names 53 = .ok (.invokevirtual 141, 3) := by decide +kernel
theorem dX6_names_56 : decode cX6_names 56 = .ok (.ifCond .ne 5, 3) := by decide +kernel
theorem dX6_names_59 : decode cX6_names 59 = .ok (.iconst (-1), 1) := by decide +kernel
theorem dX6_names_60 : decode cX6_names 60 = .ok (.ireturn, 1) := by decide +kernel
theorem dX6_names_61 : decode cX6_names 61 = .ok (.iload_n 1, 1) := by decide +kernel
theorem dX6_names_62 : decode cX6_names 62 = .ok (.iconst (-1), 1) := by decide +kernel
theorem dX6_names_63 : decode cX6_names 63 = .ok (.if_icmp .ne 13, 3) := by decide +kernel
theorem dX6_names_66 : decode cX6_names 66 = .ok (.aload_n 0, 1) := by decide +kernel
theorem dX6_names_67 : decode cX6_names 67 = .ok (.getfield 44, 3) := by decide +kernel
theorem dX6_names_70 : decode cX6_names 70 = .ok (.getfield 145, 3) := by decide +kernel
theorem dX6_names_73 : decode cX6_names 73 = .ok (.goto 15, 3) := by decide +kernel
theorem dX6_names_76 : decode cX6_names 76 = .ok (.aload_n 0, 1) := by decide +kernel
theorem dX6_names_77 : decode cX6_names 77 = .ok (.getfield 44, 3) := by decide +kernel
theorem dX6_names_80 : decode cX6_names 80 = .ok (.getfield 148, 3) := by decide +kernel
theorem dX6_names_83 : decode cX6_names 83 = .ok (.iload_n 1, 1) := by decide +kernel
theorem dX6_names_84 : decode cX6_names 84 = .ok (.iaload, 1) := by decide +kernel
theorem dX6_names_85 : decode cX6_names 85 = .ok (.invokestatic 151, 3) := by decide +kernel
theorem dX6_names_88 : decode cX6_names 88 = .ok (.ireturn, 1) := by decide +kernel
set_option maxRecDepth 20000 in
theorem ggX6_bride_X0_isPerson : GoodIn wsX6_bride wsX0_isPerson := goodIn_r _ [7, 8, 9, 10, 11, 95, 96, 97, 98, 99, 100, 101, 102, 103, 104, 105] (by decide +kernel) (by decide +kernel)
set_option maxRecDepth 20000 in
theorem gX6_bride_X0_isPerson : GoodIn wsX6_bride (wsV RX6 68 RX0 yX0_isPerson wsX0_isPerson) := goodIn_app (goodIn_of _ (by decide +kernel)) ggX6_bride_X0_isPerson
set_option maxRecDepth 20000 in
theorem ggX6_bride_X6_refuse : GoodIn wsX6_bride wsX6_refuse := goodIn_r _ [15, 16, 87, 88, 89, 90, 91, 92, 93, 94] (by decide +kernel) (by decide +kernel)
set_option maxRecDepth 20000 in
theorem gX6_bride_X6_refuse : GoodIn wsX6_bride (wsV RX6 56 RX6 yX6_refuse wsX6_refuse) := goodIn_app (goodIn_of _ (by decide +kernel)) ggX6_bride_X6_refuse
set_option maxRecDepth 20000 in
theorem ggX6_bride_X5_leastNewEnd : GoodIn wsX6_bride wsX5_leastNewEnd := goodIn_r _ [21, 22, 23, 24, 25, 26, 27, 28, 29, 20, 30, 31, 32, 33, 34, 35, 6, 36, 37, 38, 39, 40, 41, 42, 43, 44, 45, 46, 47, 48, 49, 50, 51, 52, 53, 54, 55, 56, 57, 58, 59, 60, 61, 62, 63, 64, 65, 66, 67, 68, 69, 70, 71, 72, 73, 74, 75, 76, 77, 78, 79, 80, 81, 82, 83, 84, 85, 86, 95, 96, 97, 98, 99, 100, 101, 102, 103, 104, 105, 106, 107, 108, 109, 110, 111, 112, 113, 114, 115, 116] (by decide +kernel) (by decide +kernel)
set_option maxRecDepth 20000 in
theorem gX6_bride_X5_leastNewEnd : GoodIn wsX6_bride (wsV RX6 154 RX5 yX5_leastNewEnd wsX5_leastNewEnd) := goodIn_app (goodIn_of _ (by decide +kernel)) ggX6_bride_X5_leastNewEnd
theorem dX6_bride_0 : decode cX6_bride 0 = .ok (.aload_n 0, 1) := by decide +kernel
theorem dX6_bride_1 : decode cX6_bride 1 = .ok (.getfield 10, 3) := by decide +kernel
theorem dX6_bride_4 : decode cX6_bride 4 = .ok (.iload_n 1, 1) := by decide +kernel
theorem dX6_bride_5 : decode cX6_bride 5 = .ok (.invokevirtual 68, 3) := by decide +kernel
theorem dX6_bride_8 : decode cX6_bride 8 = .ok (.ifCond .ne 12, 3) := by decide +kernel
theorem dX6_bride_11 : decode cX6_bride 11 = .ok (.aload_n 0, 1) := by decide +kernel
theorem dX6_bride_12 : decode cX6_bride 12 = .ok (.bipush (-2), 2) := by decide +kernel
theorem dX6_bride_14 : decode cX6_bride 14 = .ok (.bipush (-2), 2) := by decide +kernel
theorem dX6_bride_16 : decode cX6_bride 16 = .ok (.invokevirtual 56, 3) := by decide +kernel
theorem dX6_bride_19 : decode cX6_bride 19 = .ok (.ireturn, 1) := by decide +kernel
theorem dX6_bride_20 : decode cX6_bride 20 = .ok (.aload_n 0, 1) := by decide +kernel
theorem dX6_bride_21 : decode cX6_bride 21 = .ok (.getfield 37, 3) := by decide +kernel
theorem dX6_bride_24 : decode cX6_bride 24 = .ok (.aload_n 0, 1) := by decide +kernel
theorem dX6_bride_25 : decode cX6_bride 25 = .ok (.getfield 10, 3) := by decide +kernel
theorem dX6_bride_28 : decode cX6_bride 28 = .ok (.iload_n 1, 1) := by decide +kernel
theorem dX6_bride_29 : decode cX6_bride 29 = .ok (.invokevirtual 154, 3) := by decide +kernel
theorem dX6_bride_32 : decode cX6_bride 32 = .ok (.ireturn, 1) := by decide +kernel
set_option maxRecDepth 20000 in
theorem ggX6_thief_X6_isBelow : GoodIn wsX6_thief wsX6_isBelow := goodIn_r _ [7] (by decide +kernel) (by decide +kernel)
set_option maxRecDepth 20000 in
theorem gX6_thief_X6_isBelow : GoodIn wsX6_thief (va_wsS RX6 80 yX6_isBelow wsX6_isBelow) := goodIn_app (goodIn_of _ (by decide +kernel)) ggX6_thief_X6_isBelow
set_option maxRecDepth 20000 in
theorem ggX6_thief_X0_isPerson : GoodIn wsX6_thief wsX0_isPerson := goodIn_r _ [12, 13, 5, 6, 7, 90, 91, 92, 93, 94, 95, 96, 97, 98, 99, 100] (by decide +kernel) (by decide +kernel)
set_option maxRecDepth 20000 in
theorem gX6_thief_X0_isPerson : GoodIn wsX6_thief (wsV RX6 68 RX0 yX0_isPerson wsX0_isPerson) := goodIn_app (goodIn_of _ (by decide +kernel)) ggX6_thief_X0_isPerson
set_option maxRecDepth 20000 in
theorem ggX6_thief_X6_refuse : GoodIn wsX6_thief wsX6_refuse := goodIn_r _ [17, 18, 82, 83, 84, 85, 86, 87, 88, 89] (by decide +kernel) (by decide +kernel)
set_option maxRecDepth 20000 in
theorem gX6_thief_X6_refuse : GoodIn wsX6_thief (wsV RX6 56 RX6 yX6_refuse wsX6_refuse) := goodIn_app (goodIn_of _ (by decide +kernel)) ggX6_thief_X6_refuse
set_option maxRecDepth 20000 in
theorem ggX6_thief_X4_notes : GoodIn wsX6_thief wsX4_notes := goodIn_r _ [22] (by decide +kernel) (by decide +kernel)
set_option maxRecDepth 20000 in
theorem gX6_thief_X4_notes : GoodIn wsX6_thief (va_wsS RX6 158 yX4_notes wsX4_notes) := goodIn_app (goodIn_of _ (by decide +kernel)) ggX6_thief_X4_notes
set_option maxRecDepth 20000 in
theorem ggX6_thief_X5_turners : GoodIn wsX6_thief wsX5_turners := goodIn_r _ [27, 28, 29, 30, 31, 26, 32, 33, 34, 35, 36, 37, 38, 39, 40, 41, 42, 43, 44, 45, 46, 47, 48, 21, 49, 50, 20, 22, 51, 52, 53, 54, 55, 56, 57, 58, 59, 60, 61, 62, 63, 64, 65, 66, 67, 68, 69, 70, 71, 72, 73, 74, 75, 76, 77, 78, 79, 80, 81, 90, 91, 92, 93, 94, 95, 96, 97, 98, 99, 100, 101, 102, 103, 104, 105, 106, 107, 108, 109, 110, 111] (by decide +kernel) (by decide +kernel)
set_option maxRecDepth 20000 in
theorem gX6_thief_X5_turners : GoodIn wsX6_thief (wsV RX6 115 RX5 yX5_turners wsX5_turners) := goodIn_app (goodIn_of _ (by decide +kernel)) ggX6_thief_X5_turners
theorem dX6_thief_0 : decode cX6_thief 0 = .ok (.iload_n 1, 1) := by decide +kernel
theorem dX6_thief_1 : decode cX6_thief 1 = .ok (.bipush 6, 2) := by decide +kernel
theorem dX6_thief_3 : decode cX6_thief 3 = .ok (.invokestatic 80, 3) := by decide +kernel
theorem dX6_thief_6 : decode cX6_thief 6 = .ok (.ifCond .eq 22, 3) := by decide +kernel
theorem dX6_thief_9 : decode cX6_thief 9 = .ok (.iload_n 2, 1) := by decide +kernel
theorem dX6_thief_10 : decode cX6_thief 10 = .ok (.iconst 4, 1) := by decide +kernel
theorem dX6_thief_11 : decode cX6_thief 11 = .ok (.invokestatic 80, 3) := by decide +kernel
theorem dX6_thief_14 : decode cX6_thief 14 = .ok (.ifCond .eq 14, 3) := by decide +kernel
theorem dX6_thief_17 : decode cX6_thief 17 = .ok (.aload_n 0, 1) := by decide +kernel
theorem dX6_thief_18 : decode cX6_thief 18 = .ok (.getfield 10, 3) := by decide +kernel
theorem dX6_thief_21 : decode cX6_thief 21 = .ok (.iload_n 3, 1) := by decide +kernel
theorem dX6_thief_22 : decode cX6_thief 22 = .ok (.invokevirtual 68, 3) := by decide +kernel
theorem dX6_thief_25 : decode cX6_thief 25 = .ok (.ifCond .ne 12, 3) := by decide +kernel
theorem dX6_thief_28 : decode cX6_thief 28 = .ok (.aload_n 0, 1) := by decide +kernel
theorem dX6_thief_29 : decode cX6_thief 29 = .ok (.bipush (-2), 2) := by decide +kernel
theorem dX6_thief_31 : decode cX6_thief 31 = .ok (.bipush (-2), 2) := by decide +kernel
theorem dX6_thief_33 : decode cX6_thief 33 = .ok (.invokevirtual 56, 3) := by decide +kernel
theorem dX6_thief_36 : decode cX6_thief 36 = .ok (.ireturn, 1) := by decide +kernel
theorem dX6_thief_37 : decode cX6_thief 37 = .ok (.aload_n 0, 1) := by decide +kernel
theorem dX6_thief_38 : decode cX6_thief 38 = .ok (.getfield 10, 3) := by decide +kernel
theorem dX6_thief_41 : decode cX6_thief 41 = .ok (.getfield 77, 3) := by decide +kernel
theorem dX6_thief_44 : decode cX6_thief 44 = .ok (.iload_n 3, 1) := by decide +kernel
theorem dX6_thief_45 : decode cX6_thief 45 = .ok (.iaload, 1) := by decide +kernel
theorem dX6_thief_46 : decode cX6_thief 46 = .ok (.istore 4, 2) := by decide +kernel
theorem dX6_thief_48 : decode cX6_thief 48 = .ok (.iload 4, 2) := by decide +kernel
theorem dX6_thief_50 : decode cX6_thief 50 = .ok (.invokestatic 158, 3) := by decide +kernel
theorem dX6_thief_53 : decode cX6_thief 53 = .ok (.istore 5, 2) := by decide +kernel
theorem dX6_thief_55 : decode cX6_thief 55 = .ok (.iconst 1, 1) := by decide +kernel
theorem dX6_thief_56 : decode cX6_thief 56 = .ok (.istore 6, 2) := by decide +kernel
theorem dX6_thief_58 : decode cX6_thief 58 = .ok (.iload 6, 2) := by decide +kernel
theorem dX6_thief_60 : decode cX6_thief 60 = .ok (.iload 5, 2) := by decide +kernel
theorem dX6_thief_62 : decode cX6_thief 62 = .ok (.if_icmp .gt 49, 3) := by decide +kernel
theorem dX6_thief_65 : decode cX6_thief 65 = .ok (.iload 4, 2) := by decide +kernel
theorem dX6_thief_67 : decode cX6_thief 67 = .ok (.iconst 2, 1) := by decide +kernel
theorem dX6_thief_68 : decode cX6_thief 68 = .ok (.iload 5, 2) := by decide +kernel
theorem dX6_thief_70 : decode cX6_thief 70 = .ok (.iload 6, 2) := by decide +kernel
theorem dX6_thief_72 : decode cX6_thief 72 = .ok (.isub, 1) := by decide +kernel
theorem dX6_thief_73 : decode cX6_thief 73 = .ok (.imul, 1) := by decide +kernel
theorem dX6_thief_74 : decode cX6_thief 74 = .ok (.ishr, 1) := by decide +kernel
theorem dX6_thief_75 : decode cX6_thief 75 = .ok (.istore 7, 2) := by decide +kernel
theorem dX6_thief_77 : decode cX6_thief 77 = .ok (.aload_n 0, 1) := by decide +kernel
theorem dX6_thief_78 : decode cX6_thief 78 = .ok (.getfield 37, 3) := by decide +kernel
theorem dX6_thief_81 : decode cX6_thief 81 = .ok (.aload_n 0, 1) := by decide +kernel
theorem dX6_thief_82 : decode cX6_thief 82 = .ok (.getfield 10, 3) := by decide +kernel
theorem dX6_thief_85 : decode cX6_thief 85 = .ok (.iload_n 1, 1) := by decide +kernel
theorem dX6_thief_86 : decode cX6_thief 86 = .ok (.iload 7, 2) := by decide +kernel
theorem dX6_thief_88 : decode cX6_thief 88 = .ok (.iload_n 2, 1) := by decide +kernel
theorem dX6_thief_89 : decode cX6_thief 89 = .ok (.invokevirtual 115, 3) := by decide +kernel
theorem dX6_thief_92 : decode cX6_thief 92 = .ok (.istore 8, 2) := by decide +kernel
theorem dX6_thief_94 : decode cX6_thief 94 = .ok (.iload 8, 2) := by decide +kernel
theorem dX6_thief_96 : decode cX6_thief 96 = .ok (.iconst 1, 1) := by decide +kernel
theorem dX6_thief_97 : decode cX6_thief 97 = .ok (.iload_n 3, 1) := by decide +kernel
theorem dX6_thief_98 : decode cX6_thief 98 = .ok (.ishl, 1) := by decide +kernel
theorem dX6_thief_99 : decode cX6_thief 99 = .ok (.if_icmp .ne 6, 3) := by decide +kernel
theorem dX6_thief_102 : decode cX6_thief 102 = .ok (.iload 6, 2) := by decide +kernel
theorem dX6_thief_104 : decode cX6_thief 104 = .ok (.ireturn, 1) := by decide +kernel
theorem dX6_thief_105 : decode cX6_thief 105 = .ok (.iinc 6 1, 3) := by decide +kernel
theorem dX6_thief_108 : decode cX6_thief 108 = .ok (.goto (-50), 3) := by decide +kernel
theorem dX6_thief_111 : decode cX6_thief 111 = .ok (.iconst (-1), 1) := by decide +kernel
theorem dX6_thief_112 : decode cX6_thief 112 = .ok (.ireturn, 1) := by decide +kernel
set_option maxRecDepth 20000 in
theorem ggX6_whistled_X6_isBelow : GoodIn wsX6_whistled wsX6_isBelow := goodIn_r _ [9] (by decide +kernel) (by decide +kernel)
set_option maxRecDepth 20000 in
theorem gX6_whistled_X6_isBelow : GoodIn wsX6_whistled (va_wsS RX6 80 yX6_isBelow wsX6_isBelow) := goodIn_app (goodIn_of _ (by decide +kernel)) ggX6_whistled_X6_isBelow
set_option maxRecDepth 20000 in
theorem ggX6_whistled_X6_refuse : GoodIn wsX6_whistled wsX6_refuse := goodIn_r _ [13, 14, 79, 80, 81, 82, 83, 84, 85, 86] (by decide +kernel) (by decide +kernel)
set_option maxRecDepth 20000 in
theorem gX6_whistled_X6_refuse : GoodIn wsX6_whistled (wsV RX6 56 RX6 yX6_refuse wsX6_refuse) := goodIn_app (goodIn_of _ (by decide +kernel)) ggX6_whistled_X6_refuse
set_option maxRecDepth 20000 in
theorem ggX6_whistled_X5_findWhistled : GoodIn wsX6_whistled wsX5_findWhistled := goodIn_r _ [19, 20, 21, 22, 23, 24, 25, 18, 26, 27, 28, 29, 30, 31, 32, 33, 34, 35, 36, 37, 38, 39, 40, 41, 42, 43, 44, 45, 46, 47, 48, 49, 50, 51, 52, 53, 54, 55, 56, 57, 58, 59, 60, 61, 62, 63, 64, 65, 66, 67, 68, 69, 70, 71, 72, 73, 74, 75, 76, 77, 78, 98, 99, 100, 101, 102, 103, 104, 87, 88, 89, 90, 91, 92, 93, 94, 95, 96, 97, 105, 106, 107, 108] (by decide +kernel) (by decide +kernel)
set_option maxRecDepth 20000 in
theorem gX6_whistled_X5_findWhistled : GoodIn wsX6_whistled (wsV RX6 161 RX5 yX5_findWhistled wsX5_findWhistled) := goodIn_app (goodIn_of _ (by decide +kernel)) ggX6_whistled_X5_findWhistled
theorem dX6_whistled_0 : decode cX6_whistled 0 = .ok (.iload_n 1, 1) := by decide +kernel
theorem dX6_whistled_1 : decode cX6_whistled 1 = .ok (.bipush 6, 2) := by decide +kernel
theorem dX6_whistled_3 : decode cX6_whistled 3 = .ok (.invokestatic 80, 3) := by decide +kernel
theorem dX6_whistled_6 : decode cX6_whistled 6 = .ok (.ifCond .eq 11, 3) := by decide +kernel
theorem dX6_whistled_9 : decode cX6_whistled 9 = .ok (.iload_n 2, 1) := by decide +kernel
theorem dX6_whistled_10 : decode cX6_whistled 10 = .ok (.iconst 4, 1) := by decide +kernel
theorem dX6_whistled_11 : decode cX6_whistled 11 = .ok (.invokestatic 80, 3) := by decide +kernel
theorem dX6_whistled_14 : decode cX6_whistled 14 = .ok (.ifCond .ne 12, 3) := by decide +kernel
theorem dX6_whistled_17 : decode cX6_whistled 17 = .ok (.aload_n 0, 1) := by decide +kernel
theorem dX6_whistled_18 : decode cX6_whistled 18 = .ok (.bipush (-2), 2) := by decide +kernel
theorem dX6_whistled_20 : decode cX6_whistled 20 = .ok (.bipush (-2), 2) := by decide +kernel
theorem dX6_whistled_22 : decode cX6_whistled 22 = .ok (.invokevirtual 56, 3) := by decide +kernel
theorem dX6_whistled_25 : decode cX6_whistled 25 = .ok (.ireturn, 1) := by decide +kernel
theorem dX6_whistled_26 : decode cX6_whistled 26 = .ok (.iload_n 3, 1) := by decide +kernel
theorem dX6_whistled_27 : decode cX6_whistled 27 = .ok (.iconst 1, 1) := by decide +kernel
theorem dX6_whistled_28 : decode cX6_whistled 28 = .ok (.aload_n 0, 1) := by decide +kernel
theorem dX6_whistled_29 : decode cX6_whistled 29 = .ok (.getfield 10, 3) := by decide +kernel
theorem dX6_whistled_32 : decode cX6_whistled 32 = .ok (.getfield 132, 3) := by decide +kernel
theorem dX6_whistled_35 : decode cX6_whistled 35 = .ok (.ishl, 1) := by decide +kernel
theorem dX6_whistled_36 : decode cX6_whistled 36 = .ok (.invokestatic 80, 3) := by decide +kernel
theorem dX6_whistled_39 : decode cX6_whistled 39 = .ok (.ifCond .eq 12, 3) := by decide +kernel
theorem dX6_whistled_42 : decode cX6_whistled 42 = .ok (.iload 4, 2) := by decide +kernel
theorem dX6_whistled_44 : decode cX6_whistled 44 = .ok (.iconst 2, 1) := by decide +kernel
theorem dX6_whistled_45 : decode cX6_whistled 45 = .ok (.invokestatic 80, 3) := by decide +kernel
theorem dX6_whistled_48 : decode cX6_whistled 48 = .ok (.ifCond .ne 12, 3) := by decide +kernel
theorem dX6_whistled_51 : decode cX6_whistled 51 = .ok (.aload_n 0, 1) := by decide +kernel
theorem dX6_whistled_52 : decode cX6_whistled 52 = .ok (.bipush (-2), 2) := by decide +kernel
theorem dX6_whistled_54 : decode cX6_whistled 54 = .ok (.bipush (-2), 2) := by decide +kernel
theorem dX6_whistled_56 : decode cX6_whistled 56 = .ok (.invokevirtual 56, 3) := by decide +kernel
theorem dX6_whistled_59 : decode cX6_whistled 59 = .ok (.ireturn, 1) := by decide +kernel
theorem dX6_whistled_60 : decode cX6_whistled 60 = .ok (.aload_n 0, 1) := by decide +kernel
theorem dX6_whistled_61 : decode cX6_whistled 61 = .ok (.getfield 37, 3) := by decide +kernel
theorem dX6_whistled_64 : decode cX6_whistled 64 = .ok (.aload_n 0, 1) := by decide +kernel
theorem dX6_whistled_65 : decode cX6_whistled 65 = .ok (.getfield 10, 3) := by decide +kernel
theorem dX6_whistled_68 : decode cX6_whistled 68 = .ok (.iload_n 1, 1) := by decide +kernel
theorem dX6_whistled_69 : decode cX6_whistled 69 = .ok (.iload_n 2, 1) := by decide +kernel
theorem dX6_whistled_70 : decode cX6_whistled 70 = .ok (.iload_n 3, 1) := by decide +kernel
theorem dX6_whistled_71 : decode cX6_whistled 71 = .ok (.invokevirtual 161, 3) := by decide +kernel
theorem dX6_whistled_74 : decode cX6_whistled 74 = .ok (.iload 4, 2) := by decide +kernel
theorem dX6_whistled_76 : decode cX6_whistled 76 = .ok (.ifCond .ne 11, 3) := by decide +kernel
theorem dX6_whistled_79 : decode cX6_whistled 79 = .ok (.aload_n 0, 1) := by decide +kernel
theorem dX6_whistled_80 : decode cX6_whistled 80 = .ok (.getfield 37, 3) := by decide +kernel
theorem dX6_whistled_83 : decode cX6_whistled 83 = .ok (.getfield 165, 3) := by decide +kernel
theorem dX6_whistled_86 : decode cX6_whistled 86 = .ok (.ireturn, 1) := by decide +kernel
theorem dX6_whistled_87 : decode cX6_whistled 87 = .ok (.aload_n 0, 1) := by decide +kernel
theorem dX6_whistled_88 : decode cX6_whistled 88 = .ok (.getfield 37, 3) := by decide +kernel
theorem dX6_whistled_91 : decode cX6_whistled 91 = .ok (.getfield 165, 3) := by decide +kernel
theorem dX6_whistled_94 : decode cX6_whistled 94 = .ok (.ifCond .ne 14, 3) := by decide +kernel
theorem dX6_whistled_97 : decode cX6_whistled 97 = .ok (.aload_n 0, 1) := by decide +kernel
theorem dX6_whistled_98 : decode cX6_whistled 98 = .ok (.bipush (-3), 2) := by decide +kernel
theorem dX6_whistled_100 : decode cX6_whistled 100 = .ok (.bipush (-3), 2) := by decide +kernel
theorem dX6_whistled_102 : decode cX6_whistled 102 = .ok (.invokevirtual 56, 3) := by decide +kernel
theorem dX6_whistled_105 : decode cX6_whistled 105 = .ok (.goto 10, 3) := by decide +kernel
theorem dX6_whistled_108 : decode cX6_whistled 108 = .ok (.aload_n 0, 1) := by decide +kernel
theorem dX6_whistled_109 : decode cX6_whistled 109 = .ok (.getfield 37, 3) := by decide +kernel
theorem dX6_whistled_112 : decode cX6_whistled 112 = .ok (.getfield 168, 3) := by decide +kernel
theorem dX6_whistled_115 : decode cX6_whistled 115 = .ok (.ireturn, 1) := by decide +kernel
set_option maxRecDepth 20000 in
theorem ggX6_word_X0_isPerson : GoodIn wsX6_word wsX0_isPerson := goodIn_r _ [8, 9, 10, 11, 12, 111, 112, 113, 114, 115, 116, 117, 118, 119, 120, 121] (by decide +kernel) (by decide +kernel)
set_option maxRecDepth 20000 in
theorem gX6_word_X0_isPerson : GoodIn wsX6_word (wsV RX6 68 RX0 yX0_isPerson wsX0_isPerson) := goodIn_app (goodIn_of _ (by decide +kernel)) ggX6_word_X0_isPerson
set_option maxRecDepth 20000 in
theorem ggX6_word_X6_refuse : GoodIn wsX6_word wsX6_refuse := goodIn_r _ [16, 17, 96, 97, 98, 99, 100, 101, 102, 103] (by decide +kernel) (by decide +kernel)
set_option maxRecDepth 20000 in
theorem gX6_word_X6_refuse : GoodIn wsX6_word (wsV RX6 56 RX6 yX6_refuse wsX6_refuse) := goodIn_app (goodIn_of _ (by decide +kernel)) ggX6_word_X6_refuse
set_option maxRecDepth 20000 in
theorem ggX6_word_X6_isBelow : GoodIn wsX6_word wsX6_isBelow := goodIn_r _ [12] (by decide +kernel) (by decide +kernel)
set_option maxRecDepth 20000 in
theorem gX6_word_X6_isBelow : GoodIn wsX6_word (va_wsS RX6 80 yX6_isBelow wsX6_isBelow) := goodIn_app (goodIn_of _ (by decide +kernel)) ggX6_word_X6_isBelow
set_option maxRecDepth 20000 in
theorem ggX6_word_X5_sendWord : GoodIn wsX6_word wsX5_sendWord := goodIn_r _ [23, 24, 25, 26, 27, 28, 22, 29, 30, 31, 32, 33, 34, 35, 36, 37, 38, 39, 40, 41, 42, 43, 44, 45, 46, 47, 48, 49, 50, 51, 52, 53, 54, 55, 56, 57, 58, 59, 60, 61, 62, 63, 64, 65, 66, 67, 68, 69, 70, 71, 72, 73, 74, 75, 76, 77, 78, 79, 80, 81, 82, 83, 84, 85, 86, 87, 88, 89, 90, 91, 111, 112, 113, 114, 115, 116, 117, 118, 119, 120, 121, 104, 105, 106, 107, 108, 109, 110, 122, 123, 124, 125] (by decide +kernel) (by decide +kernel)
set_option maxRecDepth 20000 in
theorem gX6_word_X5_sendWord : GoodIn wsX6_word (wsV RX6 171 RX5 yX5_sendWord wsX5_sendWord) := goodIn_app (goodIn_of _ (by decide +kernel)) ggX6_word_X5_sendWord
set_option maxRecDepth 20000 in
theorem ggX6_word_X5_lastCaller : GoodIn wsX6_word wsX5_lastCaller := goodIn_r _ [95, 25, 32, 24, 30, 91, 54, 51, 55, 104, 105, 106, 107, 108, 109, 110, 111, 112, 113, 114, 115, 116, 117, 118, 119, 120, 121] (by decide +kernel) (by decide +kernel)
set_option maxRecDepth 20000 in
theorem gX6_word_X5_lastCaller : GoodIn wsX6_word (wsV RX6 178 RX5 yX5_lastCaller wsX5_lastCaller) := goodIn_app (goodIn_of _ (by decide +kernel)) ggX6_word_X5_lastCaller
theorem dX6_word_0 : decode cX6_word 0 = .ok (.aload_n 0, 1) := by decide +kernel
theorem dX6_word_1 : decode cX6_word 1 = .ok (.getfield 10, 3) := by decide +kernel
theorem dX6_word_4 : decode cX6_word 4 = .ok (.iload_n 1, 1) := by decide +kernel
theorem dX6_word_5 : decode cX6_word 5 = .ok (.invokevirtual 68, 3) := by decide +kernel
theorem dX6_word_8 : decode cX6_word 8 = .ok (.ifCond .eq 19, 3) := by decide +kernel
theorem dX6_word_11 : decode cX6_word 11 = .ok (.aload_n 0, 1) := by decide +kernel
theorem dX6_word_12 : decode cX6_word 12 = .ok (.getfield 10, 3) := by decide +kernel
theorem dX6_word_15 : decode cX6_word 15 = .ok (.iload_n 2, 1) := by decide +kernel
theorem dX6_word_16 : decode cX6_word 16 = .ok (.invokevirtual 68, 3) := by decide +kernel
theorem dX6_word_19 : decode cX6_word 19 = .ok (.ifCond .eq 8, 3) := by decide +kernel
theorem dX6_word_22 : decode cX6_word 22 = .ok (.iload_n 1, 1) := by decide +kernel
theorem dX6_word_23 : decode cX6_word 23 = .ok (.iload_n 2, 1) := by decide +kernel
theorem dX6_word_24 : decode cX6_word 24 = .ok (.if_icmp .ne 12, 3) := by decide +kernel
theorem dX6_word_27 : decode cX6_word 27 = .ok (.aload_n 0, 1) := by decide +kernel
theorem dX6_word_28 : decode cX6_word 28 = .ok (.bipush (-2), 2) := by decide +kernel
theorem dX6_word_30 : decode cX6_word 30 = .ok (.bipush (-2), 2) := by decide +kernel
theorem dX6_word_32 : decode cX6_word 32 = .ok (.invokevirtual 56, 3) := by decide +kernel
theorem dX6_word_35 : decode cX6_word 35 = .ok (.ireturn, 1) := by decide +kernel
theorem dX6_word_36 : decode cX6_word 36 = .ok (.iload_n 3, 1) := by decide +kernel
theorem dX6_word_37 : decode cX6_word 37 = .ok (.iconst 4, 1) := by decide +kernel
theorem dX6_word_38 : decode cX6_word 38 = .ok (.invokestatic 80, 3) := by decide +kernel
theorem dX6_word_41 : decode cX6_word 41 = .ok (.ifCond .eq 12, 3) := by decide +kernel
theorem dX6_word_44 : decode cX6_word 44 = .ok (.iload 4, 2) := by decide +kernel
theorem dX6_word_46 : decode cX6_word 46 = .ok (.iconst 2, 1) := by decide +kernel
theorem dX6_word_47 : decode cX6_word 47 = .ok (.invokestatic 80, 3) := by decide +kernel
theorem dX6_word_50 : decode cX6_word 50 = .ok (.ifCond .ne 12, 3) := by decide +kernel
theorem dX6_word_53 : decode cX6_word 53 = .ok (.aload_n 0, 1) := by decide +kernel
theorem dX6_word_54 : decode cX6_word 54 = .ok (.bipush (-2), 2) := by decide +kernel
theorem dX6_word_56 : decode cX6_word 56 = .ok (.bipush (-2), 2) := by decide +kernel
theorem dX6_word_58 : decode cX6_word 58 = .ok (.invokevirtual 56, 3) := by decide +kernel
theorem dX6_word_61 : decode cX6_word 61 = .ok (.ireturn, 1) := by decide +kernel
theorem dX6_word_62 : decode cX6_word 62 = .ok (.aload_n 0, 1) := by decide +kernel
theorem dX6_word_63 : decode cX6_word 63 = .ok (.getfield 37, 3) := by decide +kernel
theorem dX6_word_66 : decode cX6_word 66 = .ok (.aload_n 0, 1) := by decide +kernel
theorem dX6_word_67 : decode cX6_word 67 = .ok (.getfield 10, 3) := by decide +kernel
theorem dX6_word_70 : decode cX6_word 70 = .ok (.iload_n 1, 1) := by decide +kernel
theorem dX6_word_71 : decode cX6_word 71 = .ok (.iload_n 3, 1) := by decide +kernel
theorem dX6_word_72 : decode cX6_word 72 = .ok (.invokevirtual 171, 3) := by decide +kernel
theorem dX6_word_75 : decode cX6_word 75 = .ok (.aload_n 0, 1) := by decide +kernel
theorem dX6_word_76 : decode cX6_word 76 = .ok (.getfield 37, 3) := by decide +kernel
theorem dX6_word_79 : decode cX6_word 79 = .ok (.getfield 175, 3) := by decide +kernel
theorem dX6_word_82 : decode cX6_word 82 = .ok (.iload_n 2, 1) := by decide +kernel
theorem dX6_word_83 : decode cX6_word 83 = .ok (.iaload, 1) := by decide +kernel
theorem dX6_word_84 : decode cX6_word 84 = .ok (.istore 5, 2) := by decide +kernel
theorem dX6_word_86 : decode cX6_word 86 = .ok (.iload 5, 2) := by decide +kernel
theorem dX6_word_88 : decode cX6_word 88 = .ok (.iconst (-1), 1) := by decide +kernel
theorem dX6_word_89 : decode cX6_word 89 = .ok (.if_icmp .ne 5, 3) := by decide +kernel
theorem dX6_word_92 : decode cX6_word 92 = .ok (.iconst (-1), 1) := by decide +kernel
theorem dX6_word_93 : decode cX6_word 93 = .ok (.ireturn, 1) := by decide +kernel
theorem dX6_word_94 : decode cX6_word 94 = .ok (.iload 4, 2) := by decide +kernel
theorem dX6_word_96 : decode cX6_word 96 = .ok (.ifCond .ne 8, 3) := by decide +kernel
theorem dX6_word_99 : decode cX6_word 99 = .ok (.iload 5, 2) := by decide +kernel
theorem dX6_word_101 : decode cX6_word 101 = .ok (.goto 15, 3) := by decide +kernel
theorem dX6_word_104 : decode cX6_word 104 = .ok (.aload_n 0, 1) := by decide +kernel
theorem dX6_word_105 : decode cX6_word 105 = .ok (.getfield 37, 3) := by decide +kernel
theorem dX6_word_108 : decode cX6_word 108 = .ok (.aload_n 0, 1) := by decide +kernel
theorem dX6_word_109 : decode cX6_word 109 = .ok (.getfield 10, 3) := by decide +kernel
theorem dX6_word_112 : decode cX6_word 112 = .ok (.iload_n 2, 1) := by decide +kernel
theorem dX6_word_113 : decode cX6_word 113 = .ok (.invokevirtual 178, 3) := by decide +kernel
theorem dX6_word_116 : decode cX6_word 116 = .ok (.ireturn, 1) := by decide +kernel
set_option maxRecDepth 20000 in
theorem ggX6_free_X0_isPerson : GoodIn wsX6_free wsX0_isPerson := goodIn_r _ [10, 11, 12, 13, 14, 94, 95, 96, 97, 98, 99, 100, 101, 102, 103, 104] (by decide +kernel) (by decide +kernel)
set_option maxRecDepth 20000 in
theorem gX6_free_X0_isPerson : GoodIn wsX6_free (wsV RX6 68 RX0 yX0_isPerson wsX0_isPerson) := goodIn_app (goodIn_of _ (by decide +kernel)) ggX6_free_X0_isPerson
set_option maxRecDepth 20000 in
theorem ggX6_free_X6_isBelow : GoodIn wsX6_free wsX6_isBelow := goodIn_r _ [14] (by decide +kernel) (by decide +kernel)
set_option maxRecDepth 20000 in
theorem gX6_free_X6_isBelow : GoodIn wsX6_free (va_wsS RX6 80 yX6_isBelow wsX6_isBelow) := goodIn_app (goodIn_of _ (by decide +kernel)) ggX6_free_X6_isBelow
set_option maxRecDepth 20000 in
theorem ggX6_free_X6_refuse : GoodIn wsX6_free wsX6_refuse := goodIn_r _ [19, 20, 86, 87, 88, 89, 90, 91, 92, 93] (by decide +kernel) (by decide +kernel)
set_option maxRecDepth 20000 in
theorem gX6_free_X6_refuse : GoodIn wsX6_free (wsV RX6 56 RX6 yX6_refuse wsX6_refuse) := goodIn_app (goodIn_of _ (by decide +kernel)) ggX6_free_X6_refuse
set_option maxRecDepth 20000 in
theorem ggX6_free_X5_standsAlone : GoodIn wsX6_free wsX5_standsAlone := goodIn_r _ [25, 26, 27, 28, 29, 30, 31, 9, 32, 33, 34, 35, 36, 37, 38, 39, 40, 41, 42, 43, 44, 24, 45, 46, 47, 48, 49, 50, 51, 52, 53, 54, 55, 56, 57, 58, 59, 60, 61, 62, 63, 64, 65, 66, 67, 68, 69, 70, 71, 72, 73, 74, 75, 76, 77, 78, 79, 80, 81, 82, 83, 84, 85, 94, 95, 96, 97, 98, 99, 100, 101, 102, 103, 104, 105, 106, 107, 108, 109, 110, 111, 112, 113, 114, 115] (by decide +kernel) (by decide +kernel)
set_option maxRecDepth 20000 in
theorem gX6_free_X5_standsAlone : GoodIn wsX6_free (wsV RX6 190 RX5 yX5_standsAlone wsX5_standsAlone) := goodIn_app (goodIn_of _ (by decide +kernel)) ggX6_free_X5_standsAlone
theorem dX6_free_0 : decode cX6_free 0 = .ok (.aload_n 0, 1) := by decide +kernel
theorem dX6_free_1 : decode cX6_free 1 = .ok (.getfield 10, 3) := by decide +kernel
theorem dX6_free_4 : decode cX6_free 4 = .ok (.iload_n 1, 1) := by decide +kernel
theorem dX6_free_5 : decode cX6_free 5 = .ok (.invokevirtual 68, 3) := by decide +kernel
theorem dX6_free_8 : decode cX6_free 8 = .ok (.ifCond .eq 12, 3) := by decide +kernel
theorem dX6_free_11 : decode cX6_free 11 = .ok (.iload_n 2, 1) := by decide +kernel
theorem dX6_free_12 : decode cX6_free 12 = .ok (.bipush 100, 2) := by decide +kernel
theorem dX6_free_14 : decode cX6_free 14 = .ok (.invokestatic 80, 3) := by decide +kernel
theorem dX6_free_17 : decode cX6_free 17 = .ok (.ifCond .ne 12, 3) := by decide +kernel
theorem dX6_free_20 : decode cX6_free 20 = .ok (.aload_n 0, 1) := by decide +kernel
theorem dX6_free_21 : decode cX6_free 21 = .ok (.bipush (-2), 2) := by decide +kernel
theorem dX6_free_23 : decode cX6_free 23 = .ok (.bipush (-2), 2) := by decide +kernel
theorem dX6_free_25 : decode cX6_free 25 = .ok (.invokevirtual 56, 3) := by decide +kernel
theorem dX6_free_28 : decode cX6_free 28 = .ok (.ireturn, 1) := by decide +kernel
theorem dX6_free_29 : decode cX6_free 29 = .ok (.iconst (-1), 1) := by decide +kernel
theorem dX6_free_30 : decode cX6_free 30 = .ok (.istore_n 3, 1) := by decide +kernel
theorem dX6_free_31 : decode cX6_free 31 = .ok (.iconst 0, 1) := by decide +kernel
theorem dX6_free_32 : decode cX6_free 32 = .ok (.istore 4, 2) := by decide +kernel
theorem dX6_free_34 : decode cX6_free 34 = .ok (.iload 4, 2) := by decide +kernel
theorem dX6_free_36 : decode cX6_free 36 = .ok (.aload_n 0, 1) := by decide +kernel
theorem dX6_free_37 : decode cX6_free 37 = .ok (.getfield 10, 3) := by decide +kernel
theorem dX6_free_40 : decode cX6_free 40 = .ok (.getfield 181, 3) := by decide +kernel
theorem dX6_free_43 : decode cX6_free 43 = .ok (.if_icmp .ge 93, 3) := by decide +kernel
theorem dX6_free_46 : decode cX6_free 46 = .ok (.aload_n 0, 1) := by decide +kernel
theorem dX6_free_47 : decode cX6_free 47 = .ok (.getfield 10, 3) := by decide +kernel
theorem dX6_free_50 : decode cX6_free 50 = .ok (.getfield 184, 3) := by decide +kernel
theorem dX6_free_53 : decode cX6_free 53 = .ok (.iload 4, 2) := by decide +kernel
theorem dX6_free_55 : decode cX6_free 55 = .ok (.iaload, 1) := by decide +kernel
theorem dX6_free_56 : decode cX6_free 56 = .ok (.istore 5, 2) := by decide +kernel
theorem dX6_free_58 : decode cX6_free 58 = .ok (.iload_n 3, 1) := by decide +kernel
theorem dX6_free_59 : decode cX6_free 59 = .ok (.iconst (-1), 1) := by decide +kernel
theorem dX6_free_60 : decode cX6_free 60 = .ok (.if_icmp .eq 9, 3) := by decide +kernel
theorem dX6_free_63 : decode cX6_free 63 = .ok (.iload 5, 2) := by decide +kernel
theorem dX6_free_65 : decode cX6_free 65 = .ok (.iload_n 3, 1) := by decide +kernel
theorem dX6_free_66 : decode cX6_free 66 = .ok (.if_icmp .ge 7, 3) := by decide +kernel
theorem dX6_free_69 : decode cX6_free 69 = .ok (.iconst 1, 1) := by decide +kernel
theorem dX6_free_70 : decode cX6_free 70 = .ok (.goto 4, 3) := by decide +kernel
theorem dX6_free_73 : decode cX6_free 73 = .ok (.iconst 0, 1) := by decide +kernel
theorem dX6_free_74 : decode cX6_free 74 = .ok (.istore 6, 2) := by decide +kernel
theorem dX6_free_76 : decode cX6_free 76 = .ok (.iload_n 2, 1) := by decide +kernel
theorem dX6_free_77 : decode cX6_free 77 = .ok (.aload_n 0, 1) := by decide +kernel
theorem dX6_free_78 : decode cX6_free 78 = .ok (.getfield 10, 3) := by decide +kernel
theorem dX6_free_81 : decode cX6_free 81 = .ok (.getfield 187, 3) := by decide +kernel
theorem dX6_free_84 : decode cX6_free 84 = .ok (.iload 4, 2) := by decide +kernel
theorem dX6_free_86 : decode cX6_free 86 = .ok (.iaload, 1) := by decide +kernel
theorem dX6_free_87 : decode cX6_free 87 = .ok (.bipush 9, 2) := by decide +kernel
theorem dX6_free_89 : decode cX6_free 89 = .ok (.iadd, 1) := by decide +kernel
theorem dX6_free_90 : decode cX6_free 90 = .ok (.if_icmp .lt 7, 3) := by decide +kernel
theorem dX6_free_93 : decode cX6_free 93 = .ok (.iconst 1, 1) := by decide +kernel
theorem dX6_free_94 : decode cX6_free 94 = .ok (.goto 4, 3) := by decide +kernel
theorem dX6_free_97 : decode cX6_free 97 = .ok (.iconst 0, 1) := by decide +kernel
theorem dX6_free_98 : decode cX6_free 98 = .ok (.istore 7, 2) := by decide +kernel
theorem dX6_free_100 : decode cX6_free 100 = .ok (.iload 6, 2) := by decide +kernel
theorem dX6_free_102 : decode cX6_free 102 = .ok (.ifCond .eq 28, 3) := by decide +kernel
theorem dX6_free_105 : decode cX6_free 105 = .ok (.iload 7, 2) := by decide +kernel
theorem dX6_free_107 : decode cX6_free 107 = .ok (.ifCond .eq 23, 3) := by decide +kernel
theorem dX6_free_110 : decode cX6_free 110 = .ok (.aload_n 0, 1) := by decide +kernel
theorem dX6_free_111 : decode cX6_free 111 = .ok (.getfield 37, 3) := by decide +kernel
theorem dX6_free_114 : decode cX6_free 114 = .ok (.aload_n 0, 1) := by decide +kernel
theorem dX6_free_115 : decode cX6_free 115 = .ok (.getfield 10, 3) := by decide +kernel
theorem dX6_free_118 : decode cX6_free 118 = .ok (.iload_n 1, 1) := by decide +kernel
theorem dX6_free_119 : decode cX6_free 119 = .ok (.iload 5, 2) := by decide +kernel
theorem dX6_free_121 : decode cX6_free 121 = .ok (.invokevirtual 190, 3) := by decide +kernel
theorem dX6_free_124 : decode cX6_free 124 = .ok (.ifCond .eq 6, 3) := by decide +kernel
theorem dX6_free_127 : decode cX6_free 127 = .ok (.iload 5, 2) := by decide +kernel
theorem dX6_free_129 : decode cX6_free 129 = .ok (.istore_n 3, 1) := by decide +kernel
theorem dX6_free_130 : decode cX6_free 130 = .ok (.iinc 4 1, 3) := by decide +kernel
theorem dX6_free_133 : decode cX6_free 133 = .ok (.goto (-99), 3) := by decide +kernel
theorem dX6_free_136 : decode cX6_free 136 = .ok (.iload_n 3, 1) := by decide +kernel
theorem dX6_free_137 : decode cX6_free 137 = .ok (.ireturn, 1) := by decide +kernel
set_option maxRecDepth 20000 in
theorem ggX6_image_X6_isBelow : GoodIn wsX6_image wsX6_isBelow := goodIn_r _ [7] (by decide +kernel) (by decide +kernel)
set_option maxRecDepth 20000 in
theorem gX6_image_X6_isBelow : GoodIn wsX6_image (va_wsS RX6 80 yX6_isBelow wsX6_isBelow) := goodIn_app (goodIn_of _ (by decide +kernel)) ggX6_image_X6_isBelow
set_option maxRecDepth 20000 in
theorem ggX6_image_X6_refuse : GoodIn wsX6_image wsX6_refuse := goodIn_r _ [11, 12, 33, 34, 35, 36, 37, 38, 39, 40] (by decide +kernel) (by decide +kernel)
set_option maxRecDepth 20000 in
theorem gX6_image_X6_refuse : GoodIn wsX6_image (wsV RX6 56 RX6 yX6_refuse wsX6_refuse) := goodIn_app (goodIn_of _ (by decide +kernel)) ggX6_image_X6_refuse
set_option maxRecDepth 20000 in
theorem ggX6_image_X0_become : GoodIn wsX6_image wsX0_become := goodIn_r _ [17, 18, 19, 20, 21, 22, 23, 24, 25, 26, 27, 28, 29, 30, 31, 32, 41, 42, 43, 44, 45, 46, 47, 48, 49, 50, 51] (by decide +kernel) (by decide +kernel)
set_option maxRecDepth 20000 in
theorem gX6_image_X0_become : GoodIn wsX6_image (wsV RX6 193 RX0 yX0_become wsX0_become) := goodIn_app (goodIn_of _ (by decide +kernel)) ggX6_image_X0_become
theorem dX6_image_0 : decode cX6_image 0 = .ok (.iload_n 1, 1) := by decide +kernel
theorem dX6_image_1 : decode cX6_image 1 = .ok (.iconst 2, 1) := by decide +kernel
theorem dX6_image_2 : decode cX6_image 2 = .ok (.invokestatic 80, 3) := by decide +kernel
theorem dX6_image_5 : decode cX6_image 5 = .ok (.ifCond .ne 12, 3) := by decide +kernel
theorem dX6_image_8 : decode cX6_image 8 = .ok (.aload_n 0, 1) := by decide +kernel
theorem dX6_image_9 : decode cX6_image 9 = .ok (.bipush (-2), 2) := by decide +kernel
theorem dX6_image_11 : decode cX6_image 11 = .ok (.bipush (-2), 2) := by decide +kernel
theorem dX6_image_13 : decode cX6_image 13 = .ok (.invokevirtual 56, 3) := by decide +kernel
theorem dX6_image_16 : decode cX6_image 16 = .ok (.ireturn, 1) := by decide +kernel
theorem dX6_image_17 : decode cX6_image 17 = .ok (.aload_n 0, 1) := by decide +kernel
theorem dX6_image_18 : decode cX6_image 18 = .ok (.getfield 19, 3) := by decide +kernel
theorem dX6_image_21 : decode cX6_image 21 = .ok (.iload_n 1, 1) := by decide +kernel
theorem dX6_image_22 : decode cX6_image 22 = .ok (.aaload, 1) := by decide +kernel
theorem dX6_image_23 : decode cX6_image 23 = .ok (.aload_n 0, 1) := by decide +kernel
theorem dX6_image_24 : decode cX6_image 24 = .ok (.getfield 10, 3) := by decide +kernel
theorem dX6_image_27 : decode cX6_image 27 = .ok (.invokevirtual 193, 3) := by decide +kernel
theorem dX6_image_30 : decode cX6_image 30 = .ok (.aload_n 0, 1) := by decide +kernel
theorem dX6_image_31 : decode cX6_image 31 = .ok (.getfield 23, 3) := by decide +kernel
theorem dX6_image_34 : decode cX6_image 34 = .ok (.iload_n 1, 1) := by decide +kernel
theorem dX6_image_35 : decode cX6_image 35 = .ok (.iconst 1, 1) := by decide +kernel
theorem dX6_image_36 : decode cX6_image 36 = .ok (.bastore, 1) := by decide +kernel
theorem dX6_image_37 : decode cX6_image 37 = .ok (.iconst 1, 1) := by decide +kernel
theorem dX6_image_38 : decode cX6_image 38 = .ok (.ireturn, 1) := by decide +kernel
set_option maxRecDepth 20000 in
theorem ggX6_from_X6_isBelow : GoodIn wsX6_from wsX6_isBelow := goodIn_r _ [7] (by decide +kernel) (by decide +kernel)
set_option maxRecDepth 20000 in
theorem gX6_from_X6_isBelow : GoodIn wsX6_from (va_wsS RX6 80 yX6_isBelow wsX6_isBelow) := goodIn_app (goodIn_of _ (by decide +kernel)) ggX6_from_X6_isBelow
set_option maxRecDepth 20000 in
theorem ggX6_from_X6_refuse : GoodIn wsX6_from wsX6_refuse := goodIn_r _ [11, 12, 33, 34, 35, 36, 37, 38, 39, 40] (by decide +kernel) (by decide +kernel)
set_option maxRecDepth 20000 in
theorem gX6_from_X6_refuse : GoodIn wsX6_from (wsV RX6 56 RX6 yX6_refuse wsX6_refuse) := goodIn_app (goodIn_of _ (by decide +kernel)) ggX6_from_X6_refuse
set_option maxRecDepth 20000 in
theorem ggX6_from_X0_become : GoodIn wsX6_from wsX0_become := goodIn_r _ [17, 18, 19, 20, 21, 22, 23, 24, 25, 26, 27, 28, 29, 30, 31, 32, 41, 42, 43, 44, 45, 46, 47, 48, 49, 50, 51] (by decide +kernel) (by decide +kernel)
set_option maxRecDepth 20000 in
theorem gX6_from_X0_become : GoodIn wsX6_from (wsV RX6 193 RX0 yX0_become wsX0_become) := goodIn_app (goodIn_of _ (by decide +kernel)) ggX6_from_X0_become
theorem dX6_from_0 : decode cX6_from 0 = .ok (.iload_n 1, 1) := by decide +kernel
theorem dX6_from_1 : decode cX6_from 1 = .ok (.iconst 2, 1) := by decide +kernel
theorem dX6_from_2 : decode cX6_from 2 = .ok (.invokestatic 80, 3) := by decide +kernel
theorem dX6_from_5 : decode cX6_from 5 = .ok (.ifCond .ne 12, 3) := by decide +kernel
theorem dX6_from_8 : decode cX6_from 8 = .ok (.aload_n 0, 1) := by decide +kernel
theorem dX6_from_9 : decode cX6_from 9 = .ok (.bipush (-2), 2) := by decide +kernel
theorem dX6_from_11 : decode cX6_from 11 = .ok (.bipush (-2), 2) := by decide +kernel
theorem dX6_from_13 : decode cX6_from 13 = .ok (.invokevirtual 56, 3) := by decide +kernel
theorem dX6_from_16 : decode cX6_from 16 = .ok (.ireturn, 1) := by decide +kernel
theorem dX6_from_17 : decode cX6_from 17 = .ok (.aload_n 0, 1) := by decide +kernel
theorem dX6_from_18 : decode cX6_from 18 = .ok (.getfield 23, 3) := by decide +kernel
theorem dX6_from_21 : decode cX6_from 21 = .ok (.iload_n 1, 1) := by decide +kernel
theorem dX6_from_22 : decode cX6_from 22 = .ok (.baload, 1) := by decide +kernel
theorem dX6_from_23 : decode cX6_from 23 = .ok (.ifCond .ne 12, 3) := by decide +kernel
theorem dX6_from_26 : decode cX6_from 26 = .ok (.aload_n 0, 1) := by decide +kernel
theorem dX6_from_27 : decode cX6_from 27 = .ok (.bipush (-3), 2) := by decide +kernel
theorem dX6_from_29 : decode cX6_from 29 = .ok (.bipush (-3), 2) := by decide +kernel
theorem dX6_from_31 : decode cX6_from 31 = .ok (.invokevirtual 56, 3) := by decide +kernel
theorem dX6_from_34 : decode cX6_from 34 = .ok (.ireturn, 1) := by decide +kernel
theorem dX6_from_35 : decode cX6_from 35 = .ok (.aload_n 0, 1) := by decide +kernel
theorem dX6_from_36 : decode cX6_from 36 = .ok (.getfield 10, 3) := by decide +kernel
theorem dX6_from_39 : decode cX6_from 39 = .ok (.aload_n 0, 1) := by decide +kernel
theorem dX6_from_40 : decode cX6_from 40 = .ok (.getfield 19, 3) := by decide +kernel
theorem dX6_from_43 : decode cX6_from 43 = .ok (.iload_n 1, 1) := by decide +kernel
theorem dX6_from_44 : decode cX6_from 44 = .ok (.aaload, 1) := by decide +kernel
theorem dX6_from_45 : decode cX6_from 45 = .ok (.invokevirtual 193, 3) := by decide +kernel
theorem dX6_from_48 : decode cX6_from 48 = .ok (.iconst 1, 1) := by decide +kernel
theorem dX6_from_49 : decode cX6_from 49 = .ok (.ireturn, 1) := by decide +kernel
set_option maxRecDepth 20000 in
theorem ggX6_status_X6_isBelow : GoodIn wsX6_status wsX6_isBelow := goodIn_r _ [5] (by decide +kernel) (by decide +kernel)
set_option maxRecDepth 20000 in
theorem gX6_status_X6_isBelow : GoodIn wsX6_status (va_wsS RX6 80 yX6_isBelow wsX6_isBelow) := goodIn_app (goodIn_of _ (by decide +kernel)) ggX6_status_X6_isBelow
set_option maxRecDepth 20000 in
theorem ggX6_status_X6_refuse : GoodIn wsX6_status wsX6_refuse := goodIn_r _ [9, 1, 10, 11, 12, 13, 14, 15, 16, 17] (by decide +kernel) (by decide +kernel)
set_option maxRecDepth 20000 in
theorem gX6_status_X6_refuse : GoodIn wsX6_status (wsV RX6 56 RX6 yX6_refuse wsX6_refuse) := goodIn_app (goodIn_of _ (by decide +kernel)) ggX6_status_X6_refuse
theorem dX6_status_0 : decode cX6_status 0 = .ok (.iload_n 1, 1) := by decide +kernel
theorem dX6_status_1 : decode cX6_status 1 = .ok (.aload_n 0, 1) := by decide +kernel
theorem dX6_status_2 : decode cX6_status 2 = .ok (.getfield 48, 3) := by decide +kernel
theorem dX6_status_5 : decode cX6_status 5 = .ok (.arraylength, 1) := by decide +kernel
theorem dX6_status_6 : decode cX6_status 6 = .ok (.invokestatic 80, 3) := by decide +kernel
theorem dX6_status_9 : decode cX6_status 9 = .ok (.ifCond .ne 11, 3) := by decide +kernel
theorem dX6_status_12 : decode cX6_status 12 = .ok (.aload_n 0, 1) := by decide +kernel
theorem dX6_status_13 : decode cX6_status 13 = .ok (.bipush (-2), 2) := by decide +kernel
theorem dX6_status_15 : decode cX6_status 15 = .ok (.iconst (-1), 1) := by decide +kernel
theorem dX6_status_16 : decode cX6_status 16 = .ok (.invokevirtual 56, 3) := by decide +kernel
theorem dX6_status_19 : decode cX6_status 19 = .ok (.ireturn, 1) := by decide +kernel
theorem dX6_status_20 : decode cX6_status 20 = .ok (.aload_n 0, 1) := by decide +kernel
theorem dX6_status_21 : decode cX6_status 21 = .ok (.getfield 48, 3) := by decide +kernel
theorem dX6_status_24 : decode cX6_status 24 = .ok (.iload_n 1, 1) := by decide +kernel
theorem dX6_status_25 : decode cX6_status 25 = .ok (.iaload, 1) := by decide +kernel
theorem dX6_status_26 : decode cX6_status 26 = .ok (.ireturn, 1) := by decide +kernel
set_option maxRecDepth 20000 in
theorem ggX6_count_X6_refuse : GoodIn wsX6_count wsX6_refuse := goodIn_r _ [11, 12, 13, 14, 15, 16, 17, 18, 19, 20] (by decide +kernel) (by decide +kernel)
set_option maxRecDepth 20000 in
theorem gX6_count_X6_refuse : GoodIn wsX6_count (wsV RX6 56 RX6 yX6_refuse wsX6_refuse) := goodIn_app (goodIn_of _ (by decide +kernel)) ggX6_count_X6_refuse
theorem dX6_count_0 : decode cX6_count 0 = .ok (.iload_n 1, 1) := by decide +kernel
theorem dX6_count_1 : decode cX6_count 1 = .ok (.tableswitch 63 0 3 #[31, 39, 47, 55], 31) := by decide +kernel
theorem dX6_count_32 : decode cX6_count 32 = .ok (.aload_n 0, 1) := by decide +kernel
theorem dX6_count_33 : decode cX6_count 33 = .ok (.getfield 10, 3) := by decide +kernel
theorem dX6_count_36 : decode cX6_count 36 = .ok (.getfield 132, 3) := by decide +kernel
theorem dX6_count_39 : decode cX6_count 39 = .ok (.ireturn, 1) := by decide +kernel
theorem dX6_count_40 : decode cX6_count 40 = .ok (.aload_n 0, 1) := by decide +kernel
theorem dX6_count_41 : decode cX6_count 41 = .ok (.getfield 10, 3) := by decide +kernel
theorem dX6_count_44 : decode cX6_count 44 = .ok (.getfield 181, 3) := by decide +kernel
theorem dX6_count_47 : decode cX6_count 47 = .ok (.ireturn, 1) := by decide +kernel
theorem dX6_count_48 : decode cX6_count 48 = .ok (.aload_n 0, 1) := by decide +kernel
theorem dX6_count_49 : decode cX6_count 49 = .ok (.getfield 10, 3) := by decide +kernel
theorem dX6_count_52 : decode cX6_count 52 = .ok (.getfield 119, 3) := by decide +kernel
theorem dX6_count_55 : decode cX6_count 55 = .ok (.ireturn, 1) := by decide +kernel
theorem dX6_count_56 : decode cX6_count 56 = .ok (.aload_n 0, 1) := by decide +kernel
theorem dX6_count_57 : decode cX6_count 57 = .ok (.getfield 30, 3) := by decide +kernel
theorem dX6_count_60 : decode cX6_count 60 = .ok (.getfield 97, 3) := by decide +kernel
theorem dX6_count_63 : decode cX6_count 63 = .ok (.ireturn, 1) := by decide +kernel
theorem dX6_count_64 : decode cX6_count 64 = .ok (.aload_n 0, 1) := by decide +kernel
theorem dX6_count_65 : decode cX6_count 65 = .ok (.bipush (-2), 2) := by decide +kernel
theorem dX6_count_67 : decode cX6_count 67 = .ok (.bipush (-2), 2) := by decide +kernel
theorem dX6_count_69 : decode cX6_count 69 = .ok (.invokevirtual 56, 3) := by decide +kernel
theorem dX6_count_72 : decode cX6_count 72 = .ok (.ireturn, 1) := by decide +kernel
set_option maxRecDepth 20000 in
theorem ggX6_digest_X0_digestOn : GoodIn wsX6_digest wsX0_digestOn := goodIn_r _ [13, 14, 15, 16, 17, 18, 19, 20, 21, 22, 23, 24, 25, 34, 35, 36, 37, 38, 39, 40, 41, 42, 43, 44] (by decide +kernel) (by decide +kernel)
set_option maxRecDepth 20000 in
theorem gX6_digest_X0_digestOn : GoodIn wsX6_digest (wsV RX6 200 RX0 yX0_digestOn wsX0_digestOn) := goodIn_app (goodIn_of _ (by decide +kernel)) ggX6_digest_X0_digestOn
theorem dX6_digest_0 : decode cX6_digest 0 = .ok (.ldc2_w 196, 3) := by decide +kernel
theorem dX6_digest_3 : decode cX6_digest 3 = .ok (.lstore_n 1, 1) := by decide +kernel
theorem dX6_digest_4 : decode cX6_digest 4 = .ok (.ldc2_w 198, 3) := by decide +kernel
theorem dX6_digest_7 : decode cX6_digest 7 = .ok (.lload_n 1, 1) := by decide +kernel
theorem dX6_digest_8 : decode cX6_digest 8 = .ok (.lmul, 1) := by decide +kernel
theorem dX6_digest_9 : decode cX6_digest 9 = .ok (.aload_n 0, 1) := by decide +kernel
theorem dX6_digest_10 : decode cX6_digest 10 = .ok (.getfield 10, 3) := by decide +kernel
theorem dX6_digest_13 : decode cX6_digest 13 = .ok (.getfield 132, 3) := by decide +kernel
theorem dX6_digest_16 : decode cX6_digest 16 = .ok (.i2l, 1) := by decide +kernel
theorem dX6_digest_17 : decode cX6_digest 17 = .ok (.ladd, 1) := by decide +kernel
theorem dX6_digest_18 : decode cX6_digest 18 = .ok (.lstore_n 1, 1) := by decide +kernel
theorem dX6_digest_19 : decode cX6_digest 19 = .ok (.ldc2_w 198, 3) := by decide +kernel
theorem dX6_digest_22 : decode cX6_digest 22 = .ok (.lload_n 1, 1) := by decide +kernel
theorem dX6_digest_23 : decode cX6_digest 23 = .ok (.lmul, 1) := by decide +kernel
theorem dX6_digest_24 : decode cX6_digest 24 = .ok (.aload_n 0, 1) := by decide +kernel
theorem dX6_digest_25 : decode cX6_digest 25 = .ok (.getfield 10, 3) := by decide +kernel
theorem dX6_digest_28 : decode cX6_digest 28 = .ok (.getfield 181, 3) := by decide +kernel
theorem dX6_digest_31 : decode cX6_digest 31 = .ok (.i2l, 1) := by decide +kernel
theorem dX6_digest_32 : decode cX6_digest 32 = .ok (.ladd, 1) := by decide +kernel
theorem dX6_digest_33 : decode cX6_digest 33 = .ok (.lstore_n 1, 1) := by decide +kernel
theorem dX6_digest_34 : decode cX6_digest 34 = .ok (.ldc2_w 198, 3) := by decide +kernel
theorem dX6_digest_37 : decode cX6_digest 37 = .ok (.lload_n 1, 1) := by decide +kernel
theorem dX6_digest_38 : decode cX6_digest 38 = .ok (.lmul, 1) := by decide +kernel
theorem dX6_digest_39 : decode cX6_digest 39 = .ok (.aload_n 0, 1) := by decide +kernel
theorem dX6_digest_40 : decode cX6_digest 40 = .ok (.getfield 10, 3) := by decide +kernel
theorem dX6_digest_43 : decode cX6_digest 43 = .ok (.getfield 119, 3) := by decide +kernel
theorem dX6_digest_46 : decode cX6_digest 46 = .ok (.i2l, 1) := by decide +kernel
theorem dX6_digest_47 : decode cX6_digest 47 = .ok (.ladd, 1) := by decide +kernel
theorem dX6_digest_48 : decode cX6_digest 48 = .ok (.lstore_n 1, 1) := by decide +kernel
theorem dX6_digest_49 : decode cX6_digest 49 = .ok (.ldc2_w 198, 3) := by decide +kernel
theorem dX6_digest_52 : decode cX6_digest 52 = .ok (.lload_n 1, 1) := by decide +kernel
theorem dX6_digest_53 : decode cX6_digest 53 = .ok (.lmul, 1) := by decide +kernel
theorem dX6_digest_54 : decode cX6_digest 54 = .ok (.aload_n 0, 1) := by decide +kernel
theorem dX6_digest_55 : decode cX6_digest 55 = .ok (.getfield 30, 3) := by decide +kernel
theorem dX6_digest_58 : decode cX6_digest 58 = .ok (.getfield 97, 3) := by decide +kernel
theorem dX6_digest_61 : decode cX6_digest 61 = .ok (.i2l, 1) := by decide +kernel
theorem dX6_digest_62 : decode cX6_digest 62 = .ok (.ladd, 1) := by decide +kernel
theorem dX6_digest_63 : decode cX6_digest 63 = .ok (.lstore_n 1, 1) := by decide +kernel
theorem dX6_digest_64 : decode cX6_digest 64 = .ok (.aload_n 0, 1) := by decide +kernel
theorem dX6_digest_65 : decode cX6_digest 65 = .ok (.getfield 10, 3) := by decide +kernel
theorem dX6_digest_68 : decode cX6_digest 68 = .ok (.lload_n 1, 1) := by decide +kernel
theorem dX6_digest_69 : decode cX6_digest 69 = .ok (.invokevirtual 200, 3) := by decide +kernel
theorem dX6_digest_72 : decode cX6_digest 72 = .ok (.lreturn, 1) := by decide +kernel
theorem dX6_refuse_0 : decode cX6_refuse 0 = .ok (.bipush (-2), 2) := by decide +kernel
theorem dX6_refuse_2 : decode cX6_refuse 2 = .ok (.iload_n 1, 1) := by decide +kernel
theorem dX6_refuse_3 : decode cX6_refuse 3 = .ok (.isub, 1) := by decide +kernel
theorem dX6_refuse_4 : decode cX6_refuse 4 = .ok (.istore_n 3, 1) := by decide +kernel
theorem dX6_refuse_5 : decode cX6_refuse 5 = .ok (.iload_n 3, 1) := by decide +kernel
theorem dX6_refuse_6 : decode cX6_refuse 6 = .ok (.ifCond .lt 22, 3) := by decide +kernel
theorem dX6_refuse_9 : decode cX6_refuse 9 = .ok (.iload_n 3, 1) := by decide +kernel
theorem dX6_refuse_10 : decode cX6_refuse 10 = .ok (.aload_n 0, 1) := by decide +kernel
theorem dX6_refuse_11 : decode cX6_refuse 11 = .ok (.getfield 48, 3) := by decide +kernel
theorem dX6_refuse_14 : decode cX6_refuse 14 = .ok (.arraylength, 1) := by decide +kernel
theorem dX6_refuse_15 : decode cX6_refuse 15 = .ok (.if_icmp .ge 13, 3) := by decide +kernel
theorem dX6_refuse_18 : decode cX6_refuse 18 = .ok (.aload_n 0, 1) := by decide +kernel
theorem dX6_refuse_19 : decode cX6_refuse 19 = .ok (.getfield 48, 3) := by decide +kernel
theorem dX6_refuse_22 : decode cX6_refuse 22 = .ok (.iload_n 3, 1) := by decide +kernel
theorem dX6_refuse_23 : decode cX6_refuse 23 = .ok (.dup2, 1) := by decide +kernel
theorem dX6_refuse_24 : decode cX6_refuse 24 = .ok (.iaload, 1) := by decide +kernel
theorem dX6_refuse_25 : decode cX6_refuse 25 = .ok (.iconst 1, 1) := by decide +kernel
theorem dX6_refuse_26 : decode cX6_refuse 26 = .ok (.iadd, 1) := by decide +kernel
theorem dX6_refuse_27 : decode cX6_refuse 27 = .ok (.iastore, 1) := by decide +kernel
theorem dX6_refuse_28 : decode cX6_refuse 28 = .ok (.iload_n 2, 1) := by decide +kernel
theorem dX6_refuse_29 : decode cX6_refuse 29 = .ok (.ireturn, 1) := by decide +kernel
set_option maxRecDepth 20000 in
theorem ggX6_counted_X6_refuse : GoodIn wsX6_counted wsX6_refuse := goodIn_r _ [5, 6, 7, 8, 9, 10, 11, 12, 13, 14] (by decide +kernel) (by decide +kernel)
set_option maxRecDepth 20000 in
theorem gX6_counted_X6_refuse : GoodIn wsX6_counted (wsV RX6 56 RX6 yX6_refuse wsX6_refuse) := goodIn_app (goodIn_of _ (by decide +kernel)) ggX6_counted_X6_refuse
theorem dX6_counted_0 : decode cX6_counted 0 = .ok (.iload_n 1, 1) := by decide +kernel
theorem dX6_counted_1 : decode cX6_counted 1 = .ok (.bipush (-2), 2) := by decide +kernel
theorem dX6_counted_3 : decode cX6_counted 3 = .ok (.if_icmp .gt 12, 3) := by decide +kernel
theorem dX6_counted_6 : decode cX6_counted 6 = .ok (.aload_n 0, 1) := by decide +kernel
theorem dX6_counted_7 : decode cX6_counted 7 = .ok (.iload_n 1, 1) := by decide +kernel
theorem dX6_counted_8 : decode cX6_counted 8 = .ok (.iload_n 1, 1) := by decide +kernel
theorem dX6_counted_9 : decode cX6_counted 9 = .ok (.invokevirtual 56, 3) := by decide +kernel
theorem dX6_counted_12 : decode cX6_counted 12 = .ok (.goto 4, 3) := by decide +kernel
theorem dX6_counted_15 : decode cX6_counted 15 = .ok (.iload_n 1, 1) := by decide +kernel
theorem dX6_counted_16 : decode cX6_counted 16 = .ok (.ireturn, 1) := by decide +kernel
theorem dX6_isBelow_0 : decode cX6_isBelow 0 = .ok (.iload_n 0, 1) := by decide +kernel
theorem dX6_isBelow_1 : decode cX6_isBelow 1 = .ok (.ifCond .lt 12, 3) := by decide +kernel
theorem dX6_isBelow_4 : decode cX6_isBelow 4 = .ok (.iload_n 0, 1) := by decide +kernel
theorem dX6_isBelow_5 : decode cX6_isBelow 5 = .ok (.iload_n 1, 1) := by decide +kernel
theorem dX6_isBelow_6 : decode cX6_isBelow 6 = .ok (.if_icmp .ge 7, 3) := by decide +kernel
theorem dX6_isBelow_9 : decode cX6_isBelow 9 = .ok (.iconst 1, 1) := by decide +kernel
theorem dX6_isBelow_10 : decode cX6_isBelow 10 = .ok (.goto 4, 3) := by decide +kernel
theorem dX6_isBelow_13 : decode cX6_isBelow 13 = .ok (.iconst 0, 1) := by decide +kernel
theorem dX6_isBelow_14 : decode cX6_isBelow 14 = .ok (.ireturn, 1) := by decide +kernel
set_option maxRecDepth 20000 in
theorem ggX6_isCall_X6_isBelow : GoodIn wsX6_isCall wsX6_isBelow := goodIn_r _ [4] (by decide +kernel) (by decide +kernel)
set_option maxRecDepth 20000 in
theorem gX6_isCall_X6_isBelow : GoodIn wsX6_isCall (va_wsS RX6 80 yX6_isBelow wsX6_isBelow) := goodIn_app (goodIn_of _ (by decide +kernel)) ggX6_isCall_X6_isBelow
set_option maxRecDepth 20000 in
theorem ggX6_isCall_X4_isTune : GoodIn wsX6_isCall wsX4_isTune := goodIn_r _ [8, 9, 10, 7, 11] (by decide +kernel) (by decide +kernel)
set_option maxRecDepth 20000 in
theorem gX6_isCall_X4_isTune : GoodIn wsX6_isCall (va_wsS RX6 72 yX4_isTune wsX4_isTune) := goodIn_app (goodIn_of _ (by decide +kernel)) ggX6_isCall_X4_isTune
theorem dX6_isCall_0 : decode cX6_isCall 0 = .ok (.iload_n 0, 1) := by decide +kernel
theorem dX6_isCall_1 : decode cX6_isCall 1 = .ok (.bipush 6, 2) := by decide +kernel
theorem dX6_isCall_3 : decode cX6_isCall 3 = .ok (.invokestatic 80, 3) := by decide +kernel
theorem dX6_isCall_6 : decode cX6_isCall 6 = .ok (.ifCond .eq 22, 3) := by decide +kernel
theorem dX6_isCall_9 : decode cX6_isCall 9 = .ok (.iload_n 1, 1) := by decide +kernel
theorem dX6_isCall_10 : decode cX6_isCall 10 = .ok (.invokestatic 72, 3) := by decide +kernel
theorem dX6_isCall_13 : decode cX6_isCall 13 = .ok (.ifCond .eq 15, 3) := by decide +kernel
theorem dX6_isCall_16 : decode cX6_isCall 16 = .ok (.iload_n 2, 1) := by decide +kernel
theorem dX6_isCall_17 : decode cX6_isCall 17 = .ok (.iconst 4, 1) := by decide +kernel
theorem dX6_isCall_18 : decode cX6_isCall 18 = .ok (.invokestatic 80, 3) := by decide +kernel
theorem dX6_isCall_21 : decode cX6_isCall 21 = .ok (.ifCond .eq 7, 3) := by decide +kernel
theorem dX6_isCall_24 : decode cX6_isCall 24 = .ok (.iconst 1, 1) := by decide +kernel
theorem dX6_isCall_25 : decode cX6_isCall 25 = .ok (.goto 4, 3) := by decide +kernel
theorem dX6_isCall_28 : decode cX6_isCall 28 = .ok (.iconst 0, 1) := by decide +kernel
theorem dX6_isCall_29 : decode cX6_isCall 29 = .ok (.ireturn, 1) := by decide +kernel
theorem dX7_in_0 : decode cX7_in 0 = .ok (.lload_n 0, 1) := by decide +kernel
theorem dX7_in_1 : decode cX7_in 1 = .ok (.lload_n 2, 1) := by decide +kernel
theorem dX7_in_2 : decode cX7_in 2 = .ok (.lcmp, 1) := by decide +kernel
theorem dX7_in_3 : decode cX7_in 3 = .ok (.ifCond .lt 14, 3) := by decide +kernel
theorem dX7_in_6 : decode cX7_in 6 = .ok (.lload_n 0, 1) := by decide +kernel
theorem dX7_in_7 : decode cX7_in 7 = .ok (.lload 4, 2) := by decide +kernel
theorem dX7_in_9 : decode cX7_in 9 = .ok (.lcmp, 1) := by decide +kernel
theorem dX7_in_10 : decode cX7_in 10 = .ok (.ifCond .gt 7, 3) := by decide +kernel
theorem dX7_in_13 : decode cX7_in 13 = .ok (.iconst 1, 1) := by decide +kernel
theorem dX7_in_14 : decode cX7_in 14 = .ok (.goto 4, 3) := by decide +kernel
theorem dX7_in_17 : decode cX7_in 17 = .ok (.iconst 0, 1) := by decide +kernel
theorem dX7_in_18 : decode cX7_in 18 = .ok (.ireturn, 1) := by decide +kernel
set_option maxRecDepth 20000 in
theorem ggX7_init_X7_empties : GoodIn wsX7_init wsX7_empties := goodIn_r _ [21, 5, 22, 23, 24, 25, 26, 27, 28, 29, 30, 31, 32, 33, 34, 35, 36, 37, 38, 39] (by decide +kernel) (by decide +kernel)
set_option maxRecDepth 20000 in
theorem gX7_init_X7_empties : GoodIn wsX7_init (wsV RX7 44 RX7 yX7_empties wsX7_empties) := goodIn_app (goodIn_of _ (by decide +kernel)) ggX7_init_X7_empties
theorem dX7_init_0 : decode cX7_init 0 = .ok (.aload_n 0, 1) := by decide +kernel
theorem dX7_init_1 : decode cX7_init 1 = .ok (.invokespecial 1, 3) := by decide +kernel
theorem dX7_init_4 : decode cX7_init 4 = .ok (.aload_n 0, 1) := by decide +kernel
theorem dX7_init_5 : decode cX7_init 5 = .ok (.bipush 66, 2) := by decide +kernel
theorem dX7_init_7 : decode cX7_init 7 = .ok (.newarray .int, 2) := by decide +kernel
theorem dX7_init_9 : decode cX7_init 9 = .ok (.putfield 7, 3) := by decide +kernel
theorem dX7_init_12 : decode cX7_init 12 = .ok (.aload_n 0, 1) := by decide +kernel
theorem dX7_init_13 : decode cX7_init 13 = .ok (.sipush 132, 3) := by decide +kernel
theorem dX7_init_16 : decode cX7_init 16 = .ok (.newarray .int, 2) := by decide +kernel
theorem dX7_init_18 : decode cX7_init 18 = .ok (.putfield 13, 3) := by decide +kernel
theorem dX7_init_21 : decode cX7_init 21 = .ok (.aload_n 0, 1) := by decide +kernel
theorem dX7_init_22 : decode cX7_init 22 = .ok (.iconst 2, 1) := by decide +kernel
theorem dX7_init_23 : decode cX7_init 23 = .ok (.newarray .boolean, 2) := by decide +kernel
theorem dX7_init_25 : decode cX7_init 25 = .ok (.putfield 16, 3) := by decide +kernel
theorem dX7_init_28 : decode cX7_init 28 = .ok (.aload_n 0, 1) := by decide +kernel
theorem dX7_init_29 : decode cX7_init 29 = .ok (.bipush 66, 2) := by decide +kernel
theorem dX7_init_31 : decode cX7_init 31 = .ok (.newarray .int, 2) := by decide +kernel
theorem dX7_init_33 : decode cX7_init 33 = .ok (.putfield 20, 3) := by decide +kernel
theorem dX7_init_36 : decode cX7_init 36 = .ok (.aload_n 0, 1) := by decide +kernel
theorem dX7_init_37 : decode cX7_init 37 = .ok (.iconst 3, 1) := by decide +kernel
theorem dX7_init_38 : decode cX7_init 38 = .ok (.newarray .int, 2) := by decide +kernel
theorem dX7_init_40 : decode cX7_init 40 = .ok (.putfield 23, 3) := by decide +kernel
theorem dX7_init_43 : decode cX7_init 43 = .ok (.aload_n 0, 1) := by decide +kernel
theorem dX7_init_44 : decode cX7_init 44 = .ok (.sipush 200, 3) := by decide +kernel
