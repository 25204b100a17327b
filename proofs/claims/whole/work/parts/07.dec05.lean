theorem dX7_init_47 : decode cX7_init 47 = .ok (.newarray .int, 2) := by decide +kernel
theorem dX7_init_49 : decode cX7_init 49 = .ok (.putfield 26, 3) := by decide +kernel
theorem dX7_init_52 : decode cX7_init 52 = .ok (.aload_n 0, 1) := by decide +kernel
theorem dX7_init_53 : decode cX7_init 53 = .ok (.sipush 200, 3) := by decide +kernel
theorem dX7_init_56 : decode cX7_init 56 = .ok (.newarray .int, 2) := by decide +kernel
theorem dX7_init_58 : decode cX7_init 58 = .ok (.putfield 29, 3) := by decide +kernel
theorem dX7_init_61 : decode cX7_init 61 = .ok (.aload_n 0, 1) := by decide +kernel
theorem dX7_init_62 : decode cX7_init 62 = .ok (.sipush 10000, 3) := by decide +kernel
theorem dX7_init_65 : decode cX7_init 65 = .ok (.newarray .boolean, 2) := by decide +kernel
theorem dX7_init_67 : decode cX7_init 67 = .ok (.putfield 32, 3) := by decide +kernel
theorem dX7_init_70 : decode cX7_init 70 = .ok (.aload_n 0, 1) := by decide +kernel
theorem dX7_init_71 : decode cX7_init 71 = .ok (.iconst 5, 1) := by decide +kernel
theorem dX7_init_72 : decode cX7_init 72 = .ok (.newarray .int, 2) := by decide +kernel
theorem dX7_init_74 : decode cX7_init 74 = .ok (.putfield 35, 3) := by decide +kernel
theorem dX7_init_77 : decode cX7_init 77 = .ok (.aload_n 0, 1) := by decide +kernel
theorem dX7_init_78 : decode cX7_init 78 = .ok (.iconst 5, 1) := by decide +kernel
theorem dX7_init_79 : decode cX7_init 79 = .ok (.newarray .int, 2) := by decide +kernel
theorem dX7_init_81 : decode cX7_init 81 = .ok (.putfield 38, 3) := by decide +kernel
theorem dX7_init_84 : decode cX7_init 84 = .ok (.aload_n 0, 1) := by decide +kernel
theorem dX7_init_85 : decode cX7_init 85 = .ok (.bipush 7, 2) := by decide +kernel
theorem dX7_init_87 : decode cX7_init 87 = .ok (.newarray .int, 2) := by decide +kernel
theorem dX7_init_89 : decode cX7_init 89 = .ok (.putfield 41, 3) := by decide +kernel
theorem dX7_init_92 : decode cX7_init 92 = .ok (.aload_n 0, 1) := by decide +kernel
theorem dX7_init_93 : decode cX7_init 93 = .ok (.invokevirtual 44, 3) := by decide +kernel
theorem dX7_init_96 : decode cX7_init 96 = .ok (.return_, 1) := by decide +kernel
theorem dX7_empties_0 : decode cX7_empties 0 = .ok (.iconst 0, 1) := by decide +kernel
theorem dX7_empties_1 : decode cX7_empties 1 = .ok (.istore_n 1, 1) := by decide +kernel
theorem dX7_empties_2 : decode cX7_empties 2 = .ok (.iload_n 1, 1) := by decide +kernel
theorem dX7_empties_3 : decode cX7_empties 3 = .ok (.bipush 66, 2) := by decide +kernel
theorem dX7_empties_5 : decode cX7_empties 5 = .ok (.if_icmp .ge 26, 3) := by decide +kernel
theorem dX7_empties_8 : decode cX7_empties 8 = .ok (.aload_n 0, 1) := by decide +kernel
theorem dX7_empties_9 : decode cX7_empties 9 = .ok (.getfield 7, 3) := by decide +kernel
theorem dX7_empties_12 : decode cX7_empties 12 = .ok (.iload_n 1, 1) := by decide +kernel
theorem dX7_empties_13 : decode cX7_empties 13 = .ok (.iload_n 1, 1) := by decide +kernel
theorem dX7_empties_14 : decode cX7_empties 14 = .ok (.bipush 15, 2) := by decide +kernel
theorem dX7_empties_16 : decode cX7_empties 16 = .ok (.if_icmp .ge 7, 3) := by decide +kernel
theorem dX7_empties_19 : decode cX7_empties 19 = .ok (.iconst (-1), 1) := by decide +kernel
theorem dX7_empties_20 : decode cX7_empties 20 = .ok (.goto 4, 3) := by decide +kernel
theorem dX7_empties_23 : decode cX7_empties 23 = .ok (.iconst 0, 1) := by decide +kernel
theorem dX7_empties_24 : decode cX7_empties 24 = .ok (.iastore, 1) := by decide +kernel
theorem dX7_empties_25 : decode cX7_empties 25 = .ok (.iinc 1 1, 3) := by decide +kernel
theorem dX7_empties_28 : decode cX7_empties 28 = .ok (.goto (-26), 3) := by decide +kernel
theorem dX7_empties_31 : decode cX7_empties 31 = .ok (.return_, 1) := by decide +kernel
theorem dX7_refuses_0 : decode cX7_refuses 0 = .ok (.aload_n 0, 1) := by decide +kernel
theorem dX7_refuses_1 : decode cX7_refuses 1 = .ok (.getfield 23, 3) := by decide +kernel
theorem dX7_refuses_4 : decode cX7_refuses 4 = .ok (.iload_n 1, 1) := by decide +kernel
theorem dX7_refuses_5 : decode cX7_refuses 5 = .ok (.dup2, 1) := by decide +kernel
theorem dX7_refuses_6 : decode cX7_refuses 6 = .ok (.iaload, 1) := by decide +kernel
theorem dX7_refuses_7 : decode cX7_refuses 7 = .ok (.aload_n 0, 1) := by decide +kernel
theorem dX7_refuses_8 : decode cX7_refuses 8 = .ok (.getfield 47, 3) := by decide +kernel
theorem dX7_refuses_11 : decode cX7_refuses 11 = .ok (.ifCond .eq 7, 3) := by decide +kernel
theorem dX7_refuses_14 : decode cX7_refuses 14 = .ok (.iconst 0, 1) := by decide +kernel
theorem dX7_refuses_15 : decode cX7_refuses 15 = .ok (.goto 4, 3) := by decide +kernel
theorem dX7_refuses_18 : decode cX7_refuses 18 = .ok (.iconst 1, 1) := by decide +kernel
theorem dX7_refuses_19 : decode cX7_refuses 19 = .ok (.iadd, 1) := by decide +kernel
theorem dX7_refuses_20 : decode cX7_refuses 20 = .ok (.iastore, 1) := by decide +kernel
theorem dX7_refuses_21 : decode cX7_refuses 21 = .ok (.iload_n 2, 1) := by decide +kernel
theorem dX7_refuses_22 : decode cX7_refuses 22 = .ok (.ireturn, 1) := by decide +kernel
set_option maxRecDepth 20000 in
theorem ggX7_bad_X7_refuses : GoodIn wsX7_bad wsX7_refuses := goodIn_r _ [5, 6, 7, 8, 9, 10, 11, 12, 13, 14, 15, 16, 17, 18, 19, 20, 21, 22, 23, 24, 25] (by decide +kernel) (by decide +kernel)
set_option maxRecDepth 20000 in
theorem gX7_bad_X7_refuses : GoodIn wsX7_bad (wsV RX7 51 RX7 yX7_refuses wsX7_refuses) := goodIn_app (goodIn_of _ (by decide +kernel)) ggX7_bad_X7_refuses
theorem dX7_bad_0 : decode cX7_bad 0 = .ok (.aload_n 0, 1) := by decide +kernel
theorem dX7_bad_1 : decode cX7_bad 1 = .ok (.iconst 0, 1) := by decide +kernel
theorem dX7_bad_2 : decode cX7_bad 2 = .ok (.bipush (-2), 2) := by decide +kernel
theorem dX7_bad_4 : decode cX7_bad 4 = .ok (.invokevirtual 51, 3) := by decide +kernel
theorem dX7_bad_7 : decode cX7_bad 7 = .ok (.ireturn, 1) := by decide +kernel
set_option maxRecDepth 20000 in
theorem ggX7_no_X7_refuses : GoodIn wsX7_no wsX7_refuses := goodIn_r _ [5, 6, 7, 8, 9, 10, 11, 12, 13, 14, 15, 16, 17, 18, 19, 20, 21, 22, 23, 24, 25] (by decide +kernel) (by decide +kernel)
set_option maxRecDepth 20000 in
theorem gX7_no_X7_refuses : GoodIn wsX7_no (wsV RX7 51 RX7 yX7_refuses wsX7_refuses) := goodIn_app (goodIn_of _ (by decide +kernel)) ggX7_no_X7_refuses
theorem dX7_no_0 : decode cX7_no 0 = .ok (.aload_n 0, 1) := by decide +kernel
theorem dX7_no_1 : decode cX7_no 1 = .ok (.iconst 1, 1) := by decide +kernel
theorem dX7_no_2 : decode cX7_no 2 = .ok (.bipush (-3), 2) := by decide +kernel
theorem dX7_no_4 : decode cX7_no 4 = .ok (.invokevirtual 51, 3) := by decide +kernel
theorem dX7_no_7 : decode cX7_no 7 = .ok (.ireturn, 1) := by decide +kernel
set_option maxRecDepth 20000 in
theorem ggX7_full_X7_refuses : GoodIn wsX7_full wsX7_refuses := goodIn_r _ [5, 6, 7, 8, 9, 10, 11, 12, 13, 14, 15, 16, 17, 18, 19, 20, 21, 22, 23, 24, 25] (by decide +kernel) (by decide +kernel)
set_option maxRecDepth 20000 in
theorem gX7_full_X7_refuses : GoodIn wsX7_full (wsV RX7 51 RX7 yX7_refuses wsX7_refuses) := goodIn_app (goodIn_of _ (by decide +kernel)) ggX7_full_X7_refuses
theorem dX7_full_0 : decode cX7_full 0 = .ok (.aload_n 0, 1) := by decide +kernel
theorem dX7_full_1 : decode cX7_full 1 = .ok (.iconst 2, 1) := by decide +kernel
theorem dX7_full_2 : decode cX7_full 2 = .ok (.bipush (-4), 2) := by decide +kernel
theorem dX7_full_4 : decode cX7_full 4 = .ok (.invokevirtual 51, 3) := by decide +kernel
theorem dX7_full_7 : decode cX7_full 7 = .ok (.ireturn, 1) := by decide +kernel
set_option maxRecDepth 20000 in
theorem ggX7_isPlace_X7_in : GoodIn wsX7_isPlace wsX7_in := goodIn_r _ [5] (by decide +kernel) (by decide +kernel)
set_option maxRecDepth 20000 in
theorem gX7_isPlace_X7_in : GoodIn wsX7_isPlace (va_wsS RX7 57 yX7_in wsX7_in) := goodIn_app (goodIn_of _ (by decide +kernel)) ggX7_isPlace_X7_in
theorem dX7_isPlace_0 : decode cX7_isPlace 0 = .ok (.iload_n 0, 1) := by decide +kernel
theorem dX7_isPlace_1 : decode cX7_isPlace 1 = .ok (.i2l, 1) := by decide +kernel
theorem dX7_isPlace_2 : decode cX7_isPlace 2 = .ok (.lconst 0, 1) := by decide +kernel
theorem dX7_isPlace_3 : decode cX7_isPlace 3 = .ok (.ldc2_w 55, 3) := by decide +kernel
theorem dX7_isPlace_6 : decode cX7_isPlace 6 = .ok (.invokestatic 57, 3) := by decide +kernel
theorem dX7_isPlace_9 : decode cX7_isPlace 9 = .ok (.ireturn, 1) := by decide +kernel
set_option maxRecDepth 20000 in
theorem ggX7_isWind_X7_in : GoodIn wsX7_isWind wsX7_in := goodIn_r _ [5] (by decide +kernel) (by decide +kernel)
set_option maxRecDepth 20000 in
theorem gX7_isWind_X7_in : GoodIn wsX7_isWind (va_wsS RX7 57 yX7_in wsX7_in) := goodIn_app (goodIn_of _ (by decide +kernel)) ggX7_isWind_X7_in
theorem dX7_isWind_0 : decode cX7_isWind 0 = .ok (.iload_n 0, 1) := by decide +kernel
theorem dX7_isWind_1 : decode cX7_isWind 1 = .ok (.i2l, 1) := by decide +kernel
theorem dX7_isWind_2 : decode cX7_isWind 2 = .ok (.lconst 0, 1) := by decide +kernel
theorem dX7_isWind_3 : decode cX7_isWind 3 = .ok (.ldc2_w 61, 3) := by decide +kernel
theorem dX7_isWind_6 : decode cX7_isWind 6 = .ok (.invokestatic 57, 3) := by decide +kernel
theorem dX7_isWind_9 : decode cX7_isWind 9 = .ok (.ireturn, 1) := by decide +kernel
set_option maxRecDepth 20000 in
theorem ggX7_isOne_X7_in : GoodIn wsX7_isOne wsX7_in := goodIn_r _ [5] (by decide +kernel) (by decide +kernel)
set_option maxRecDepth 20000 in
theorem gX7_isOne_X7_in : GoodIn wsX7_isOne (va_wsS RX7 57 yX7_in wsX7_in) := goodIn_app (goodIn_of _ (by decide +kernel)) ggX7_isOne_X7_in
theorem dX7_isOne_0 : decode cX7_isOne 0 = .ok (.iload_n 1, 1) := by decide +kernel
theorem dX7_isOne_1 : decode cX7_isOne 1 = .ok (.i2l, 1) := by decide +kernel
theorem dX7_isOne_2 : decode cX7_isOne 2 = .ok (.lconst 0, 1) := by decide +kernel
theorem dX7_isOne_3 : decode cX7_isOne 3 = .ok (.aload_n 0, 1) := by decide +kernel
theorem dX7_isOne_4 : decode cX7_isOne 4 = .ok (.getfield 7, 3) := by decide +kernel
theorem dX7_isOne_7 : decode cX7_isOne 7 = .ok (.bipush 15, 2) := by decide +kernel
theorem dX7_isOne_9 : decode cX7_isOne 9 = .ok (.iaload, 1) := by decide +kernel
theorem dX7_isOne_10 : decode cX7_isOne 10 = .ok (.iconst 1, 1) := by decide +kernel
theorem dX7_isOne_11 : decode cX7_isOne 11 = .ok (.isub, 1) := by decide +kernel
theorem dX7_isOne_12 : decode cX7_isOne 12 = .ok (.i2l, 1) := by decide +kernel
theorem dX7_isOne_13 : decode cX7_isOne 13 = .ok (.invokestatic 57, 3) := by decide +kernel
theorem dX7_isOne_16 : decode cX7_isOne 16 = .ok (.ireturn, 1) := by decide +kernel
theorem dX7_notes_0 : decode cX7_notes 0 = .ok (.iconst 0, 1) := by decide +kernel
theorem dX7_notes_1 : decode cX7_notes 1 = .ok (.istore_n 1, 1) := by decide +kernel
theorem dX7_notes_2 : decode cX7_notes 2 = .ok (.iload_n 0, 1) := by decide +kernel
theorem dX7_notes_3 : decode cX7_notes 3 = .ok (.istore_n 2, 1) := by decide +kernel
theorem dX7_notes_4 : decode cX7_notes 4 = .ok (.iload_n 2, 1) := by decide +kernel
theorem dX7_notes_5 : decode cX7_notes 5 = .ok (.iconst 3, 1) := by decide +kernel
theorem dX7_notes_6 : decode cX7_notes 6 = .ok (.if_icmp .le 13, 3) := by decide +kernel
theorem dX7_notes_9 : decode cX7_notes 9 = .ok (.iload_n 2, 1) := by decide +kernel
theorem dX7_notes_10 : decode cX7_notes 10 = .ok (.iconst 4, 1) := by decide +kernel
theorem dX7_notes_11 : decode cX7_notes 11 = .ok (.idiv, 1) := by decide +kernel
theorem dX7_notes_12 : decode cX7_notes 12 = .ok (.istore_n 2, 1) := by decide +kernel
theorem dX7_notes_13 : decode cX7_notes 13 = .ok (.iinc 1 1, 3) := by decide +kernel
theorem dX7_notes_16 : decode cX7_notes 16 = .ok (.goto (-12), 3) := by decide +kernel
theorem dX7_notes_19 : decode cX7_notes 19 = .ok (.iload_n 1, 1) := by decide +kernel
theorem dX7_notes_20 : decode cX7_notes 20 = .ok (.ireturn, 1) := by decide +kernel
set_option maxRecDepth 20000 in
theorem ggX7_isTune_X7_in : GoodIn wsX7_isTune wsX7_in := goodIn_r _ [14] (by decide +kernel) (by decide +kernel)
set_option maxRecDepth 20000 in
theorem gX7_isTune_X7_in : GoodIn wsX7_isTune (va_wsS RX7 57 yX7_in wsX7_in) := goodIn_app (goodIn_of _ (by decide +kernel)) ggX7_isTune_X7_in
theorem dX7_isTune_0 : decode cX7_isTune 0 = .ok (.iload_n 0, 1) := by decide +kernel
theorem dX7_isTune_1 : decode cX7_isTune 1 = .ok (.i2l, 1) := by decide +kernel
theorem dX7_isTune_2 : decode cX7_isTune 2 = .ok (.ldc2_w 63, 3) := by decide +kernel
theorem dX7_isTune_5 : decode cX7_isTune 5 = .ok (.ldc2_w 65, 3) := by decide +kernel
theorem dX7_isTune_8 : decode cX7_isTune 8 = .ok (.invokestatic 57, 3) := by decide +kernel
theorem dX7_isTune_11 : decode cX7_isTune 11 = .ok (.ifCond .ne 59, 3) := by decide +kernel
theorem dX7_isTune_14 : decode cX7_isTune 14 = .ok (.iload_n 0, 1) := by decide +kernel
theorem dX7_isTune_15 : decode cX7_isTune 15 = .ok (.i2l, 1) := by decide +kernel
theorem dX7_isTune_16 : decode cX7_isTune 16 = .ok (.ldc2_w 67, 3) := by decide +kernel
theorem dX7_isTune_19 : decode cX7_isTune 19 = .ok (.ldc2_w 69, 3) := by decide +kernel
theorem dX7_isTune_22 : decode cX7_isTune 22 = .ok (.invokestatic 57, 3) := by decide +kernel
theorem dX7_isTune_25 : decode cX7_isTune 25 = .ok (.ifCond .ne 45, 3) := by decide +kernel
theorem dX7_isTune_28 : decode cX7_isTune 28 = .ok (.iload_n 0, 1) := by decide +kernel
theorem dX7_isTune_29 : decode cX7_isTune 29 = .ok (.i2l, 1) := by decide +kernel
theorem dX7_isTune_30 : decode cX7_isTune 30 = .ok (.ldc2_w 71, 3) := by decide +kernel
theorem dX7_isTune_33 : decode cX7_isTune 33 = .ok (.ldc2_w 73, 3) := by decide +kernel
theorem dX7_isTune_36 : decode cX7_isTune 36 = .ok (.invokestatic 57, 3) := by decide +kernel
theorem dX7_isTune_39 : decode cX7_isTune 39 = .ok (.ifCond .ne 31, 3) := by decide +kernel
theorem dX7_isTune_42 : decode cX7_isTune 42 = .ok (.iload_n 0, 1) := by decide +kernel
theorem dX7_isTune_43 : decode cX7_isTune 43 = .ok (.i2l, 1) := by decide +kernel
theorem dX7_isTune_44 : decode cX7_isTune 44 = .ok (.ldc2_w 75, 3) := by decide +kernel
theorem dX7_isTune_47 : decode cX7_isTune 47 = .ok (.ldc2_w 77, 3) := by decide +kernel
theorem dX7_isTune_50 : decode cX7_isTune 50 = .ok (.invokestatic 57, 3) := by decide +kernel
theorem dX7_isTune_53 : decode cX7_isTune 53 = .ok (.ifCond .ne 17, 3) := by decide +kernel
theorem dX7_isTune_56 : decode cX7_isTune 56 = .ok (.iload_n 0, 1) := by decide +kernel
theorem dX7_isTune_57 : decode cX7_isTune 57 = .ok (.i2l, 1) := by decide +kernel
theorem dX7_isTune_58 : decode cX7_isTune 58 = .ok (.ldc2_w 79, 3) := by decide +kernel
theorem dX7_isTune_61 : decode cX7_isTune 61 = .ok (.ldc2_w 81, 3) := by decide +kernel
theorem dX7_isTune_64 : decode cX7_isTune 64 = .ok (.invokestatic 57, 3) := by decide +kernel
theorem dX7_isTune_67 : decode cX7_isTune 67 = .ok (.ifCond .eq 7, 3) := by decide +kernel
theorem dX7_isTune_70 : decode cX7_isTune 70 = .ok (.iconst 1, 1) := by decide +kernel
theorem dX7_isTune_71 : decode cX7_isTune 71 = .ok (.goto 4, 3) := by decide +kernel
theorem dX7_isTune_74 : decode cX7_isTune 74 = .ok (.iconst 0, 1) := by decide +kernel
theorem dX7_isTune_75 : decode cX7_isTune 75 = .ok (.ireturn, 1) := by decide +kernel
set_option maxRecDepth 20000 in
theorem ggX7_note_X7_notes : GoodIn wsX7_note wsX7_notes := goodIn_r _ [4] (by decide +kernel) (by decide +kernel)
set_option maxRecDepth 20000 in
theorem gX7_note_X7_notes : GoodIn wsX7_note (va_wsS RX7 83 yX7_notes wsX7_notes) := goodIn_app (goodIn_of _ (by decide +kernel)) ggX7_note_X7_notes
theorem dX7_note_0 : decode cX7_note 0 = .ok (.iload_n 0, 1) := by decide +kernel
theorem dX7_note_1 : decode cX7_note 1 = .ok (.iconst 2, 1) := by decide +kernel
theorem dX7_note_2 : decode cX7_note 2 = .ok (.iload_n 0, 1) := by decide +kernel
theorem dX7_note_3 : decode cX7_note 3 = .ok (.invokestatic 83, 3) := by decide +kernel
theorem dX7_note_6 : decode cX7_note 6 = .ok (.iconst 1, 1) := by decide +kernel
theorem dX7_note_7 : decode cX7_note 7 = .ok (.isub, 1) := by decide +kernel
theorem dX7_note_8 : decode cX7_note 8 = .ok (.iload_n 1, 1) := by decide +kernel
theorem dX7_note_9 : decode cX7_note 9 = .ok (.isub, 1) := by decide +kernel
theorem dX7_note_10 : decode cX7_note 10 = .ok (.imul, 1) := by decide +kernel
theorem dX7_note_11 : decode cX7_note 11 = .ok (.ishr, 1) := by decide +kernel
theorem dX7_note_12 : decode cX7_note 12 = .ok (.iconst 3, 1) := by decide +kernel
theorem dX7_note_13 : decode cX7_note 13 = .ok (.iand, 1) := by decide +kernel
theorem dX7_note_14 : decode cX7_note 14 = .ok (.ireturn, 1) := by decide +kernel
set_option maxRecDepth 20000 in
theorem ggX7_front_X7_notes : GoodIn wsX7_front wsX7_notes := goodIn_r _ [4] (by decide +kernel) (by decide +kernel)
set_option maxRecDepth 20000 in
theorem gX7_front_X7_notes : GoodIn wsX7_front (va_wsS RX7 83 yX7_notes wsX7_notes) := goodIn_app (goodIn_of _ (by decide +kernel)) ggX7_front_X7_notes
theorem dX7_front_0 : decode cX7_front 0 = .ok (.iload_n 0, 1) := by decide +kernel
theorem dX7_front_1 : decode cX7_front 1 = .ok (.iconst 2, 1) := by decide +kernel
theorem dX7_front_2 : decode cX7_front 2 = .ok (.iload_n 0, 1) := by decide +kernel
theorem dX7_front_3 : decode cX7_front 3 = .ok (.invokestatic 83, 3) := by decide +kernel
theorem dX7_front_6 : decode cX7_front 6 = .ok (.iload_n 1, 1) := by decide +kernel
theorem dX7_front_7 : decode cX7_front 7 = .ok (.isub, 1) := by decide +kernel
theorem dX7_front_8 : decode cX7_front 8 = .ok (.imul, 1) := by decide +kernel
theorem dX7_front_9 : decode cX7_front 9 = .ok (.ishr, 1) := by decide +kernel
theorem dX7_front_10 : decode cX7_front 10 = .ok (.ireturn, 1) := by decide +kernel
set_option maxRecDepth 20000 in
theorem ggX7_left_X7_notes : GoodIn wsX7_left wsX7_notes := goodIn_r _ [4] (by decide +kernel) (by decide +kernel)
set_option maxRecDepth 20000 in
theorem gX7_left_X7_notes : GoodIn wsX7_left (va_wsS RX7 83 yX7_notes wsX7_notes) := goodIn_app (goodIn_of _ (by decide +kernel)) ggX7_left_X7_notes
set_option maxRecDepth 20000 in
theorem ggX7_left_X7_note : GoodIn wsX7_left wsX7_note := goodIn_r _ [7, 1, 2, 3, 4] (by decide +kernel) (by decide +kernel)
set_option maxRecDepth 20000 in
theorem gX7_left_X7_note : GoodIn wsX7_left (va_wsS RX7 87 yX7_note wsX7_note) := goodIn_app (goodIn_of _ (by decide +kernel)) ggX7_left_X7_note
theorem dX7_left_0 : decode cX7_left 0 = .ok (.iconst 1, 1) := by decide +kernel
theorem dX7_left_1 : decode cX7_left 1 = .ok (.istore_n 2, 1) := by decide +kernel
theorem dX7_left_2 : decode cX7_left 2 = .ok (.iconst 0, 1) := by decide +kernel
theorem dX7_left_3 : decode cX7_left 3 = .ok (.istore_n 3, 1) := by decide +kernel
theorem dX7_left_4 : decode cX7_left 4 = .ok (.iload_n 3, 1) := by decide +kernel
theorem dX7_left_5 : decode cX7_left 5 = .ok (.iload_n 0, 1) := by decide +kernel
theorem dX7_left_6 : decode cX7_left 6 = .ok (.invokestatic 83, 3) := by decide +kernel
theorem dX7_left_9 : decode cX7_left 9 = .ok (.if_icmp .ge 34, 3) := by decide +kernel
theorem dX7_left_12 : decode cX7_left 12 = .ok (.iload_n 0, 1) := by decide +kernel
theorem dX7_left_13 : decode cX7_left 13 = .ok (.iload_n 3, 1) := by decide +kernel
theorem dX7_left_14 : decode cX7_left 14 = .ok (.invokestatic 87, 3) := by decide +kernel
theorem dX7_left_17 : decode cX7_left 17 = .ok (.iconst 3, 1) := by decide +kernel
theorem dX7_left_18 : decode cX7_left 18 = .ok (.iload_n 1, 1) := by decide +kernel
theorem dX7_left_19 : decode cX7_left 19 = .ok (.isub, 1) := by decide +kernel
theorem dX7_left_20 : decode cX7_left 20 = .ok (.if_icmp .le 7, 3) := by decide +kernel
theorem dX7_left_23 : decode cX7_left 23 = .ok (.iload_n 2, 1) := by decide +kernel
theorem dX7_left_24 : decode cX7_left 24 = .ok (.goto 12, 3) := by decide +kernel
theorem dX7_left_27 : decode cX7_left 27 = .ok (.iconst 4, 1) := by decide +kernel
theorem dX7_left_28 : decode cX7_left 28 = .ok (.iload_n 2, 1) := by decide +kernel
theorem dX7_left_29 : decode cX7_left 29 = .ok (.imul, 1) := by decide +kernel
theorem dX7_left_30 : decode cX7_left 30 = .ok (.iload_n 0, 1) := by decide +kernel
theorem dX7_left_31 : decode cX7_left 31 = .ok (.iload_n 3, 1) := by decide +kernel
theorem dX7_left_32 : decode cX7_left 32 = .ok (.invokestatic 87, 3) := by decide +kernel
theorem dX7_left_35 : decode cX7_left 35 = .ok (.iadd, 1) := by decide +kernel
theorem dX7_left_36 : decode cX7_left 36 = .ok (.istore_n 2, 1) := by decide +kernel
theorem dX7_left_37 : decode cX7_left 37 = .ok (.iinc 3 1, 3) := by decide +kernel
theorem dX7_left_40 : decode cX7_left 40 = .ok (.goto (-36), 3) := by decide +kernel
theorem dX7_left_43 : decode cX7_left 43 = .ok (.iload_n 2, 1) := by decide +kernel
theorem dX7_left_44 : decode cX7_left 44 = .ok (.ireturn, 1) := by decide +kernel
set_option maxRecDepth 20000 in
theorem ggX7_lisped_X7_notes : GoodIn wsX7_lisped wsX7_notes := goodIn_r _ [4] (by decide +kernel) (by decide +kernel)
set_option maxRecDepth 20000 in
theorem gX7_lisped_X7_notes : GoodIn wsX7_lisped (va_wsS RX7 83 yX7_notes wsX7_notes) := goodIn_app (goodIn_of _ (by decide +kernel)) ggX7_lisped_X7_notes
set_option maxRecDepth 20000 in
theorem ggX7_lisped_X7_note : GoodIn wsX7_lisped wsX7_note := goodIn_r _ [7, 1, 2, 3, 4] (by decide +kernel) (by decide +kernel)
set_option maxRecDepth 20000 in
theorem gX7_lisped_X7_note : GoodIn wsX7_lisped (va_wsS RX7 87 yX7_note wsX7_note) := goodIn_app (goodIn_of _ (by decide +kernel)) ggX7_lisped_X7_note
theorem dX7_lisped_0 : decode cX7_lisped 0 = .ok (.iconst 1, 1) := by decide +kernel
theorem dX7_lisped_1 : decode cX7_lisped 1 = .ok (.istore_n 1, 1) := by decide +kernel
theorem dX7_lisped_2 : decode cX7_lisped 2 = .ok (.iconst 0, 1) := by decide +kernel
theorem dX7_lisped_3 : decode cX7_lisped 3 = .ok (.istore_n 2, 1) := by decide +kernel
theorem dX7_lisped_4 : decode cX7_lisped 4 = .ok (.iload_n 2, 1) := by decide +kernel
theorem dX7_lisped_5 : decode cX7_lisped 5 = .ok (.iload_n 0, 1) := by decide +kernel
theorem dX7_lisped_6 : decode cX7_lisped 6 = .ok (.invokestatic 83, 3) := by decide +kernel
theorem dX7_lisped_9 : decode cX7_lisped 9 = .ok (.if_icmp .ge 32, 3) := by decide +kernel
theorem dX7_lisped_12 : decode cX7_lisped 12 = .ok (.iconst 4, 1) := by decide +kernel
theorem dX7_lisped_13 : decode cX7_lisped 13 = .ok (.iload_n 1, 1) := by decide +kernel
theorem dX7_lisped_14 : decode cX7_lisped 14 = .ok (.imul, 1) := by decide +kernel
theorem dX7_lisped_15 : decode cX7_lisped 15 = .ok (.iload_n 0, 1) := by decide +kernel
theorem dX7_lisped_16 : decode cX7_lisped 16 = .ok (.iload_n 2, 1) := by decide +kernel
theorem dX7_lisped_17 : decode cX7_lisped 17 = .ok (.invokestatic 87, 3) := by decide +kernel
theorem dX7_lisped_20 : decode cX7_lisped 20 = .ok (.iconst 2, 1) := by decide +kernel
theorem dX7_lisped_21 : decode cX7_lisped 21 = .ok (.if_icmp .ne 7, 3) := by decide +kernel
theorem dX7_lisped_24 : decode cX7_lisped 24 = .ok (.iconst 1, 1) := by decide +kernel
theorem dX7_lisped_25 : decode cX7_lisped 25 = .ok (.goto 8, 3) := by decide +kernel
theorem dX7_lisped_28 : decode cX7_lisped 28 = .ok (.iload_n 0, 1) := by decide +kernel
theorem dX7_lisped_29 : decode cX7_lisped 29 = .ok (.iload_n 2, 1) := by decide +kernel
theorem dX7_lisped_30 : decode cX7_lisped 30 = .ok (.invokestatic 87, 3) := by decide +kernel
theorem dX7_lisped_33 : decode cX7_lisped 33 = .ok (.iadd, 1) := by decide +kernel
theorem dX7_lisped_34 : decode cX7_lisped 34 = .ok (.istore_n 1, 1) := by decide +kernel
theorem dX7_lisped_35 : decode cX7_lisped 35 = .ok (.iinc 2 1, 3) := by decide +kernel
theorem dX7_lisped_38 : decode cX7_lisped 38 = .ok (.goto (-34), 3) := by decide +kernel
theorem dX7_lisped_41 : decode cX7_lisped 41 = .ok (.iload_n 1, 1) := by decide +kernel
theorem dX7_lisped_42 : decode cX7_lisped 42 = .ok (.ireturn, 1) := by decide +kernel
set_option maxRecDepth 20000 in
theorem ggX7_turns_X7_left : GoodIn wsX7_turns wsX7_left := goodIn_r _ [4, 5, 6, 3, 7, 8, 9, 10] (by decide +kernel) (by decide +kernel)
set_option maxRecDepth 20000 in
theorem gX7_turns_X7_left : GoodIn wsX7_turns (va_wsS RX7 90 yX7_left wsX7_left) := goodIn_app (goodIn_of _ (by decide +kernel)) ggX7_turns_X7_left
set_option maxRecDepth 20000 in
theorem ggX7_turns_X7_notes : GoodIn wsX7_turns wsX7_notes := goodIn_r _ [7] (by decide +kernel) (by decide +kernel)
set_option maxRecDepth 20000 in
theorem gX7_turns_X7_notes : GoodIn wsX7_turns (va_wsS RX7 83 yX7_notes wsX7_notes) := goodIn_app (goodIn_of _ (by decide +kernel)) ggX7_turns_X7_notes
set_option maxRecDepth 20000 in
theorem ggX7_turns_X7_front : GoodIn wsX7_turns wsX7_front := goodIn_r _ [13, 5, 6, 3, 7] (by decide +kernel) (by decide +kernel)
set_option maxRecDepth 20000 in
theorem gX7_turns_X7_front : GoodIn wsX7_turns (va_wsS RX7 93 yX7_front wsX7_front) := goodIn_app (goodIn_of _ (by decide +kernel)) ggX7_turns_X7_front
set_option maxRecDepth 20000 in
theorem ggX7_turns_X7_lisped : GoodIn wsX7_turns wsX7_lisped := goodIn_r _ [16, 5, 6, 3, 7, 8, 9, 10] (by decide +kernel) (by decide +kernel)
set_option maxRecDepth 20000 in
theorem gX7_turns_X7_lisped : GoodIn wsX7_turns (va_wsS RX7 96 yX7_lisped wsX7_lisped) := goodIn_app (goodIn_of _ (by decide +kernel)) ggX7_turns_X7_lisped
theorem dX7_turns_0 : decode cX7_turns 0 = .ok (.iload_n 0, 1) := by decide +kernel
theorem dX7_turns_1 : decode cX7_turns 1 = .ok (.iconst 4, 1) := by decide +kernel
theorem dX7_turns_2 : decode cX7_turns 2 = .ok (.if_icmp .ne 14, 3) := by decide +kernel
theorem dX7_turns_5 : decode cX7_turns 5 = .ok (.iload_n 1, 1) := by decide +kernel
theorem dX7_turns_6 : decode cX7_turns 6 = .ok (.iload_n 2, 1) := by decide +kernel
theorem dX7_turns_7 : decode cX7_turns 7 = .ok (.if_icmp .ne 7, 3) := by decide +kernel
theorem dX7_turns_10 : decode cX7_turns 10 = .ok (.iconst 1, 1) := by decide +kernel
theorem dX7_turns_11 : decode cX7_turns 11 = .ok (.goto 4, 3) := by decide +kernel
theorem dX7_turns_14 : decode cX7_turns 14 = .ok (.iconst 0, 1) := by decide +kernel
theorem dX7_turns_15 : decode cX7_turns 15 = .ok (.ireturn, 1) := by decide +kernel
theorem dX7_turns_16 : decode cX7_turns 16 = .ok (.iload_n 2, 1) := by decide +kernel
theorem dX7_turns_17 : decode cX7_turns 17 = .ok (.iload_n 3, 1) := by decide +kernel
theorem dX7_turns_18 : decode cX7_turns 18 = .ok (.invokestatic 90, 3) := by decide +kernel
theorem dX7_turns_21 : decode cX7_turns 21 = .ok (.istore 4, 2) := by decide +kernel
theorem dX7_turns_23 : decode cX7_turns 23 = .ok (.iload_n 0, 1) := by decide +kernel
theorem dX7_turns_24 : decode cX7_turns 24 = .ok (.iconst 2, 1) := by decide +kernel
theorem dX7_turns_25 : decode cX7_turns 25 = .ok (.if_icmp .eq 8, 3) := by decide +kernel
theorem dX7_turns_28 : decode cX7_turns 28 = .ok (.iload_n 0, 1) := by decide +kernel
theorem dX7_turns_29 : decode cX7_turns 29 = .ok (.iconst 5, 1) := by decide +kernel
theorem dX7_turns_30 : decode cX7_turns 30 = .ok (.if_icmp .ne 7, 3) := by decide +kernel
theorem dX7_turns_33 : decode cX7_turns 33 = .ok (.iconst 1, 1) := by decide +kernel
theorem dX7_turns_34 : decode cX7_turns 34 = .ok (.goto 4, 3) := by decide +kernel
theorem dX7_turns_37 : decode cX7_turns 37 = .ok (.iconst 0, 1) := by decide +kernel
theorem dX7_turns_38 : decode cX7_turns 38 = .ok (.istore 5, 2) := by decide +kernel
theorem dX7_turns_40 : decode cX7_turns 40 = .ok (.iload 5, 2) := by decide +kernel
theorem dX7_turns_42 : decode cX7_turns 42 = .ok (.ifCond .eq 18, 3) := by decide +kernel
theorem dX7_turns_45 : decode cX7_turns 45 = .ok (.iload_n 1, 1) := by decide +kernel
theorem dX7_turns_46 : decode cX7_turns 46 = .ok (.iload_n 1, 1) := by decide +kernel
theorem dX7_turns_47 : decode cX7_turns 47 = .ok (.invokestatic 83, 3) := by decide +kernel
theorem dX7_turns_50 : decode cX7_turns 50 = .ok (.iconst 1, 1) := by decide +kernel
theorem dX7_turns_51 : decode cX7_turns 51 = .ok (.iadd, 1) := by decide +kernel
theorem dX7_turns_52 : decode cX7_turns 52 = .ok (.iconst 2, 1) := by decide +kernel
theorem dX7_turns_53 : decode cX7_turns 53 = .ok (.idiv, 1) := by decide +kernel
theorem dX7_turns_54 : decode cX7_turns 54 = .ok (.invokestatic 93, 3) := by decide +kernel
theorem dX7_turns_57 : decode cX7_turns 57 = .ok (.goto 4, 3) := by decide +kernel
theorem dX7_turns_60 : decode cX7_turns 60 = .ok (.iload_n 1, 1) := by decide +kernel
theorem dX7_turns_61 : decode cX7_turns 61 = .ok (.iload_n 3, 1) := by decide +kernel
theorem dX7_turns_62 : decode cX7_turns 62 = .ok (.invokestatic 90, 3) := by decide +kernel
theorem dX7_turns_65 : decode cX7_turns 65 = .ok (.istore 6, 2) := by decide +kernel
theorem dX7_turns_67 : decode cX7_turns 67 = .ok (.iload 4, 2) := by decide +kernel
theorem dX7_turns_69 : decode cX7_turns 69 = .ok (.iconst 1, 1) := by decide +kernel
theorem dX7_turns_70 : decode cX7_turns 70 = .ok (.if_icmp .eq 19, 3) := by decide +kernel
theorem dX7_turns_73 : decode cX7_turns 73 = .ok (.iload 6, 2) := by decide +kernel
theorem dX7_turns_75 : decode cX7_turns 75 = .ok (.iconst 1, 1) := by decide +kernel
theorem dX7_turns_76 : decode cX7_turns 76 = .ok (.if_icmp .eq 13, 3) := by decide +kernel
theorem dX7_turns_79 : decode cX7_turns 79 = .ok (.iload_n 0, 1) := by decide +kernel
theorem dX7_turns_80 : decode cX7_turns 80 = .ok (.iconst 5, 1) := by decide +kernel
theorem dX7_turns_81 : decode cX7_turns 81 = .ok (.if_icmp .ne 10, 3) := by decide +kernel
theorem dX7_turns_84 : decode cX7_turns 84 = .ok (.iload_n 3, 1) := by decide +kernel
theorem dX7_turns_85 : decode cX7_turns 85 = .ok (.iconst 1, 1) := by decide +kernel
theorem dX7_turns_86 : decode cX7_turns 86 = .ok (.if_icmp .le 5, 3) := by decide +kernel
theorem dX7_turns_89 : decode cX7_turns 89 = .ok (.iconst 0, 1) := by decide +kernel
theorem dX7_turns_90 : decode cX7_turns 90 = .ok (.ireturn, 1) := by decide +kernel
theorem dX7_turns_91 : decode cX7_turns 91 = .ok (.iload 5, 2) := by decide +kernel
theorem dX7_turns_93 : decode cX7_turns 93 = .ok (.ifCond .eq 37, 3) := by decide +kernel
theorem dX7_turns_96 : decode cX7_turns 96 = .ok (.iload 4, 2) := by decide +kernel
theorem dX7_turns_98 : decode cX7_turns 98 = .ok (.invokestatic 83, 3) := by decide +kernel
theorem dX7_turns_101 : decode cX7_turns 101 = .ok (.iload 6, 2) := by decide +kernel
theorem dX7_turns_103 : decode cX7_turns 103 = .ok (.invokestatic 83, 3) := by decide +kernel
theorem dX7_turns_106 : decode cX7_turns 106 = .ok (.if_icmp .lt 22, 3) := by decide +kernel
theorem dX7_turns_109 : decode cX7_turns 109 = .ok (.iload 4, 2) := by decide +kernel
theorem dX7_turns_111 : decode cX7_turns 111 = .ok (.iload 6, 2) := by decide +kernel
theorem dX7_turns_113 : decode cX7_turns 113 = .ok (.invokestatic 83, 3) := by decide +kernel
theorem dX7_turns_116 : decode cX7_turns 116 = .ok (.invokestatic 93, 3) := by decide +kernel
theorem dX7_turns_119 : decode cX7_turns 119 = .ok (.iload 6, 2) := by decide +kernel
theorem dX7_turns_121 : decode cX7_turns 121 = .ok (.if_icmp .ne 7, 3) := by decide +kernel
theorem dX7_turns_124 : decode cX7_turns 124 = .ok (.iconst 1, 1) := by decide +kernel
theorem dX7_turns_125 : decode cX7_turns 125 = .ok (.goto 4, 3) := by decide +kernel
theorem dX7_turns_128 : decode cX7_turns 128 = .ok (.iconst 0, 1) := by decide +kernel
theorem dX7_turns_129 : decode cX7_turns 129 = .ok (.ireturn, 1) := by decide +kernel
theorem dX7_turns_130 : decode cX7_turns 130 = .ok (.iload_n 0, 1) := by decide +kernel
theorem dX7_turns_131 : decode cX7_turns 131 = .ok (.ifCond .ne 18, 3) := by decide +kernel
theorem dX7_turns_134 : decode cX7_turns 134 = .ok (.iload 4, 2) := by decide +kernel
theorem dX7_turns_136 : decode cX7_turns 136 = .ok (.iload 6, 2) := by decide +kernel
theorem dX7_turns_138 : decode cX7_turns 138 = .ok (.if_icmp .ne 7, 3) := by decide +kernel
theorem dX7_turns_141 : decode cX7_turns 141 = .ok (.iconst 1, 1) := by decide +kernel
theorem dX7_turns_142 : decode cX7_turns 142 = .ok (.goto 25, 3) := by decide +kernel
theorem dX7_turns_145 : decode cX7_turns 145 = .ok (.iconst 0, 1) := by decide +kernel
theorem dX7_turns_146 : decode cX7_turns 146 = .ok (.goto 21, 3) := by decide +kernel
theorem dX7_turns_149 : decode cX7_turns 149 = .ok (.iload 4, 2) := by decide +kernel
theorem dX7_turns_151 : decode cX7_turns 151 = .ok (.invokestatic 96, 3) := by decide +kernel
theorem dX7_turns_154 : decode cX7_turns 154 = .ok (.iload 6, 2) := by decide +kernel
theorem dX7_turns_156 : decode cX7_turns 156 = .ok (.invokestatic 96, 3) := by decide +kernel
theorem dX7_turns_159 : decode cX7_turns 159 = .ok (.if_icmp .ne 7, 3) := by decide +kernel
theorem dX7_turns_162 : decode cX7_turns 162 = .ok (.iconst 1, 1) := by decide +kernel
theorem dX7_turns_163 : decode cX7_turns 163 = .ok (.goto 4, 3) := by decide +kernel
theorem dX7_turns_166 : decode cX7_turns 166 = .ok (.iconst 0, 1) := by decide +kernel
theorem dX7_turns_167 : decode cX7_turns 167 = .ok (.istore 7, 2) := by decide +kernel
theorem dX7_turns_169 : decode cX7_turns 169 = .ok (.iload 7, 2) := by decide +kernel
theorem dX7_turns_171 : decode cX7_turns 171 = .ok (.ifCond .ne 32, 3) := by decide +kernel
theorem dX7_turns_174 : decode cX7_turns 174 = .ok (.iload_n 0, 1) := by decide +kernel
theorem dX7_turns_175 : decode cX7_turns 175 = .ok (.iconst 3, 1) := by decide +kernel
theorem dX7_turns_176 : decode cX7_turns 176 = .ok (.if_icmp .ne 31, 3) := by decide +kernel
theorem dX7_turns_179 : decode cX7_turns 179 = .ok (.iload 4, 2) := by decide +kernel
theorem dX7_turns_181 : decode cX7_turns 181 = .ok (.invokestatic 83, 3) := by decide +kernel
theorem dX7_turns_184 : decode cX7_turns 184 = .ok (.iload 6, 2) := by decide +kernel
theorem dX7_turns_186 : decode cX7_turns 186 = .ok (.invokestatic 83, 3) := by decide +kernel
theorem dX7_turns_189 : decode cX7_turns 189 = .ok (.if_icmp .ne 18, 3) := by decide +kernel
theorem dX7_turns_192 : decode cX7_turns 192 = .ok (.iload 4, 2) := by decide +kernel
theorem dX7_turns_194 : decode cX7_turns 194 = .ok (.iconst 4, 1) := by decide +kernel
theorem dX7_turns_195 : decode cX7_turns 195 = .ok (.irem, 1) := by decide +kernel
theorem dX7_turns_196 : decode cX7_turns 196 = .ok (.iload 6, 2) := by decide +kernel
theorem dX7_turns_198 : decode cX7_turns 198 = .ok (.iconst 4, 1) := by decide +kernel
theorem dX7_turns_199 : decode cX7_turns 199 = .ok (.irem, 1) := by decide +kernel
theorem dX7_turns_200 : decode cX7_turns 200 = .ok (.if_icmp .ne 7, 3) := by decide +kernel
theorem dX7_turns_203 : decode cX7_turns 203 = .ok (.iconst 1, 1) := by decide +kernel
theorem dX7_turns_204 : decode cX7_turns 204 = .ok (.goto 4, 3) := by decide +kernel
theorem dX7_turns_207 : decode cX7_turns 207 = .ok (.iconst 0, 1) := by decide +kernel
theorem dX7_turns_208 : decode cX7_turns 208 = .ok (.ireturn, 1) := by decide +kernel
theorem dX7_upTo_0 : decode cX7_upTo 0 = .ok (.iload_n 1, 1) := by decide +kernel
theorem dX7_upTo_1 : decode cX7_upTo 1 = .ok (.iload_n 2, 1) := by decide +kernel
theorem dX7_upTo_2 : decode cX7_upTo 2 = .ok (.if_icmp .ne 7, 3) := by decide +kernel
theorem dX7_upTo_5 : decode cX7_upTo 5 = .ok (.iconst 3, 1) := by decide +kernel
theorem dX7_upTo_6 : decode cX7_upTo 6 = .ok (.goto 39, 3) := by decide +kernel
theorem dX7_upTo_9 : decode cX7_upTo 9 = .ok (.iload_n 1, 1) := by decide +kernel
theorem dX7_upTo_10 : decode cX7_upTo 10 = .ok (.iload_n 2, 1) := by decide +kernel
theorem dX7_upTo_11 : decode cX7_upTo 11 = .ok (.if_icmp .le 20, 3) := by decide +kernel
theorem dX7_upTo_14 : decode cX7_upTo 14 = .ok (.aload_n 0, 1) := by decide +kernel
theorem dX7_upTo_15 : decode cX7_upTo 15 = .ok (.getfield 7, 3) := by decide +kernel
theorem dX7_upTo_18 : decode cX7_upTo 18 = .ok (.iload_n 1, 1) := by decide +kernel
theorem dX7_upTo_19 : decode cX7_upTo 19 = .ok (.iload_n 1, 1) := by decide +kernel
theorem dX7_upTo_20 : decode cX7_upTo 20 = .ok (.iconst 1, 1) := by decide +kernel
theorem dX7_upTo_21 : decode cX7_upTo 21 = .ok (.isub, 1) := by decide +kernel
theorem dX7_upTo_22 : decode cX7_upTo 22 = .ok (.imul, 1) := by decide +kernel
theorem dX7_upTo_23 : decode cX7_upTo 23 = .ok (.iconst 2, 1) := by decide +kernel
theorem dX7_upTo_24 : decode cX7_upTo 24 = .ok (.idiv, 1) := by decide +kernel
theorem dX7_upTo_25 : decode cX7_upTo 25 = .ok (.iload_n 2, 1) := by decide +kernel
theorem dX7_upTo_26 : decode cX7_upTo 26 = .ok (.iadd, 1) := by decide +kernel
theorem dX7_upTo_27 : decode cX7_upTo 27 = .ok (.iaload, 1) := by decide +kernel
theorem dX7_upTo_28 : decode cX7_upTo 28 = .ok (.goto 17, 3) := by decide +kernel
theorem dX7_upTo_31 : decode cX7_upTo 31 = .ok (.aload_n 0, 1) := by decide +kernel
theorem dX7_upTo_32 : decode cX7_upTo 32 = .ok (.getfield 7, 3) := by decide +kernel
theorem dX7_upTo_35 : decode cX7_upTo 35 = .ok (.iload_n 2, 1) := by decide +kernel
theorem dX7_upTo_36 : decode cX7_upTo 36 = .ok (.iload_n 2, 1) := by decide +kernel
theorem dX7_upTo_37 : decode cX7_upTo 37 = .ok (.iconst 1, 1) := by decide +kernel
theorem dX7_upTo_38 : decode cX7_upTo 38 = .ok (.isub, 1) := by decide +kernel
theorem dX7_upTo_39 : decode cX7_upTo 39 = .ok (.imul, 1) := by decide +kernel
theorem dX7_upTo_40 : decode cX7_upTo 40 = .ok (.iconst 2, 1) := by decide +kernel
theorem dX7_upTo_41 : decode cX7_upTo 41 = .ok (.idiv, 1) := by decide +kernel
theorem dX7_upTo_42 : decode cX7_upTo 42 = .ok (.iload_n 1, 1) := by decide +kernel
theorem dX7_upTo_43 : decode cX7_upTo 43 = .ok (.iadd, 1) := by decide +kernel
theorem dX7_upTo_44 : decode cX7_upTo 44 = .ok (.iaload, 1) := by decide +kernel
theorem dX7_upTo_45 : decode cX7_upTo 45 = .ok (.ireturn, 1) := by decide +kernel
set_option maxRecDepth 20000 in
theorem ggX7_hears_X7_isPlace : GoodIn wsX7_hears wsX7_isPlace := goodIn_r _ [7, 8, 9, 10, 6, 11] (by decide +kernel) (by decide +kernel)
set_option maxRecDepth 20000 in
theorem gX7_hears_X7_isPlace : GoodIn wsX7_hears (va_wsS RX7 99 yX7_isPlace wsX7_isPlace) := goodIn_app (goodIn_of _ (by decide +kernel)) ggX7_hears_X7_isPlace
set_option maxRecDepth 20000 in
theorem ggX7_hears_X7_in : GoodIn wsX7_hears wsX7_in := goodIn_r _ [11] (by decide +kernel) (by decide +kernel)
set_option maxRecDepth 20000 in
theorem gX7_hears_X7_in : GoodIn wsX7_hears (va_wsS RX7 57 yX7_in wsX7_in) := goodIn_app (goodIn_of _ (by decide +kernel)) ggX7_hears_X7_in
set_option maxRecDepth 20000 in
theorem ggX7_hears_X7_refuses : GoodIn wsX7_hears wsX7_refuses := goodIn_r _ [15, 16, 17, 22, 23, 24, 25, 26, 27, 28, 29, 30, 31, 32, 33, 34, 35, 36, 37, 38, 39] (by decide +kernel) (by decide +kernel)
set_option maxRecDepth 20000 in
theorem gX7_hears_X7_refuses : GoodIn wsX7_hears (wsV RX7 51 RX7 yX7_refuses wsX7_refuses) := goodIn_app (goodIn_of _ (by decide +kernel)) ggX7_hears_X7_refuses
set_option maxRecDepth 20000 in
theorem ggX7_hears_X7_upTo : GoodIn wsX7_hears wsX7_upTo := goodIn_r _ [21, 3, 22, 23, 24, 25, 26, 27, 28, 29, 30, 31, 32, 33, 34, 35, 36, 37, 38, 39] (by decide +kernel) (by decide +kernel)
set_option maxRecDepth 20000 in
theorem gX7_hears_X7_upTo : GoodIn wsX7_hears (wsV RX7 105 RX7 yX7_upTo wsX7_upTo) := goodIn_app (goodIn_of _ (by decide +kernel)) ggX7_hears_X7_upTo
theorem dX7_hears_0 : decode cX7_hears 0 = .ok (.iload_n 1, 1) := by decide +kernel
theorem dX7_hears_1 : decode cX7_hears 1 = .ok (.invokestatic 99, 3) := by decide +kernel
theorem dX7_hears_4 : decode cX7_hears 4 = .ok (.ifCond .eq 29, 3) := by decide +kernel
theorem dX7_hears_7 : decode cX7_hears 7 = .ok (.iload_n 2, 1) := by decide +kernel
theorem dX7_hears_8 : decode cX7_hears 8 = .ok (.invokestatic 99, 3) := by decide +kernel
theorem dX7_hears_11 : decode cX7_hears 11 = .ok (.ifCond .eq 22, 3) := by decide +kernel
theorem dX7_hears_14 : decode cX7_hears 14 = .ok (.iload_n 1, 1) := by decide +kernel
theorem dX7_hears_15 : decode cX7_hears 15 = .ok (.iload_n 2, 1) := by decide +kernel
theorem dX7_hears_16 : decode cX7_hears 16 = .ok (.if_icmp .eq 17, 3) := by decide +kernel
theorem dX7_hears_19 : decode cX7_hears 19 = .ok (.iload_n 3, 1) := by decide +kernel
theorem dX7_hears_20 : decode cX7_hears 20 = .ok (.i2l, 1) := by decide +kernel
theorem dX7_hears_21 : decode cX7_hears 21 = .ok (.ldc2_w 103, 3) := by decide +kernel
theorem dX7_hears_24 : decode cX7_hears 24 = .ok (.ldc2_w 61, 3) := by decide +kernel
theorem dX7_hears_27 : decode cX7_hears 27 = .ok (.invokestatic 57, 3) := by decide +kernel
theorem dX7_hears_30 : decode cX7_hears 30 = .ok (.ifCond .ne 11, 3) := by decide +kernel
theorem dX7_hears_33 : decode cX7_hears 33 = .ok (.aload_n 0, 1) := by decide +kernel
theorem dX7_hears_34 : decode cX7_hears 34 = .ok (.iconst 0, 1) := by decide +kernel
theorem dX7_hears_35 : decode cX7_hears 35 = .ok (.bipush (-10), 2) := by decide +kernel
theorem dX7_hears_37 : decode cX7_hears 37 = .ok (.invokevirtual 51, 3) := by decide +kernel
theorem dX7_hears_40 : decode cX7_hears 40 = .ok (.ireturn, 1) := by decide +kernel
theorem dX7_hears_41 : decode cX7_hears 41 = .ok (.aload_n 0, 1) := by decide +kernel
theorem dX7_hears_42 : decode cX7_hears 42 = .ok (.iload_n 1, 1) := by decide +kernel
theorem dX7_hears_43 : decode cX7_hears 43 = .ok (.iload_n 2, 1) := by decide +kernel
theorem dX7_hears_44 : decode cX7_hears 44 = .ok (.invokevirtual 105, 3) := by decide +kernel
theorem dX7_hears_47 : decode cX7_hears 47 = .ok (.istore 4, 2) := by decide +kernel
theorem dX7_hears_49 : decode cX7_hears 49 = .ok (.aload_n 0, 1) := by decide +kernel
theorem dX7_hears_50 : decode cX7_hears 50 = .ok (.getfield 7, 3) := by decide +kernel
theorem dX7_hears_53 : decode cX7_hears 53 = .ok (.iload_n 1, 1) := by decide +kernel
theorem dX7_hears_54 : decode cX7_hears 54 = .ok (.iload_n 2, 1) := by decide +kernel
theorem dX7_hears_55 : decode cX7_hears 55 = .ok (.if_icmp .le 15, 3) := by decide +kernel
theorem dX7_hears_58 : decode cX7_hears 58 = .ok (.iload_n 1, 1) := by decide +kernel
theorem dX7_hears_59 : decode cX7_hears 59 = .ok (.iload_n 1, 1) := by decide +kernel
theorem dX7_hears_60 : decode cX7_hears 60 = .ok (.iconst 1, 1) := by decide +kernel
theorem dX7_hears_61 : decode cX7_hears 61 = .ok (.isub, 1) := by decide +kernel
theorem dX7_hears_62 : decode cX7_hears 62 = .ok (.imul, 1) := by decide +kernel
theorem dX7_hears_63 : decode cX7_hears 63 = .ok (.iconst 2, 1) := by decide +kernel
theorem dX7_hears_64 : decode cX7_hears 64 = .ok (.idiv, 1) := by decide +kernel
theorem dX7_hears_65 : decode cX7_hears 65 = .ok (.iload_n 2, 1) := by decide +kernel
theorem dX7_hears_66 : decode cX7_hears 66 = .ok (.iadd, 1) := by decide +kernel
theorem dX7_hears_67 : decode cX7_hears 67 = .ok (.goto 12, 3) := by decide +kernel
theorem dX7_hears_70 : decode cX7_hears 70 = .ok (.iload_n 2, 1) := by decide +kernel
theorem dX7_hears_71 : decode cX7_hears 71 = .ok (.iload_n 2, 1) := by decide +kernel
theorem dX7_hears_72 : decode cX7_hears 72 = .ok (.iconst 1, 1) := by decide +kernel
theorem dX7_hears_73 : decode cX7_hears 73 = .ok (.isub, 1) := by decide +kernel
theorem dX7_hears_74 : decode cX7_hears 74 = .ok (.imul, 1) := by decide +kernel
theorem dX7_hears_75 : decode cX7_hears 75 = .ok (.iconst 2, 1) := by decide +kernel
theorem dX7_hears_76 : decode cX7_hears 76 = .ok (.idiv, 1) := by decide +kernel
theorem dX7_hears_77 : decode cX7_hears 77 = .ok (.iload_n 1, 1) := by decide +kernel
theorem dX7_hears_78 : decode cX7_hears 78 = .ok (.iadd, 1) := by decide +kernel
theorem dX7_hears_79 : decode cX7_hears 79 = .ok (.iload_n 3, 1) := by decide +kernel
theorem dX7_hears_80 : decode cX7_hears 80 = .ok (.iastore, 1) := by decide +kernel
theorem dX7_hears_81 : decode cX7_hears 81 = .ok (.iload 4, 2) := by decide +kernel
theorem dX7_hears_83 : decode cX7_hears 83 = .ok (.ireturn, 1) := by decide +kernel
set_option maxRecDepth 20000 in
theorem ggX7_one_X7_in : GoodIn wsX7_one wsX7_in := goodIn_r _ [7] (by decide +kernel) (by decide +kernel)
set_option maxRecDepth 20000 in
theorem gX7_one_X7_in : GoodIn wsX7_one (va_wsS RX7 57 yX7_in wsX7_in) := goodIn_app (goodIn_of _ (by decide +kernel)) ggX7_one_X7_in
set_option maxRecDepth 20000 in
theorem ggX7_one_X7_isTune : GoodIn wsX7_one wsX7_isTune := goodIn_r _ [10, 11, 12, 13, 14, 15, 16, 17, 18, 19, 20, 4, 5, 6, 7] (by decide +kernel) (by decide +kernel)
set_option maxRecDepth 20000 in
theorem gX7_one_X7_isTune : GoodIn wsX7_one (va_wsS RX7 108 yX7_isTune wsX7_isTune) := goodIn_app (goodIn_of _ (by decide +kernel)) ggX7_one_X7_isTune
set_option maxRecDepth 20000 in
theorem ggX7_one_X7_isPlace : GoodIn wsX7_one wsX7_isPlace := goodIn_r _ [23, 1, 4, 5, 6, 7] (by decide +kernel) (by decide +kernel)
set_option maxRecDepth 20000 in
theorem gX7_one_X7_isPlace : GoodIn wsX7_one (va_wsS RX7 99 yX7_isPlace wsX7_isPlace) := goodIn_app (goodIn_of _ (by decide +kernel)) ggX7_one_X7_isPlace
set_option maxRecDepth 20000 in
theorem ggX7_one_X7_bad : GoodIn wsX7_one wsX7_bad := goodIn_r _ [27, 28, 29, 30, 6, 31, 32, 33, 38, 39, 40, 41, 42, 43, 44, 45, 46, 47, 48, 49, 50, 51, 52, 53, 54, 55] (by decide +kernel) (by decide +kernel)
set_option maxRecDepth 20000 in
theorem gX7_one_X7_bad : GoodIn wsX7_one (wsV RX7 111 RX7 yX7_bad wsX7_bad) := goodIn_app (goodIn_of _ (by decide +kernel)) ggX7_one_X7_bad
set_option maxRecDepth 20000 in
theorem ggX7_one_X7_full : GoodIn wsX7_one wsX7_full := goodIn_r _ [37, 28, 29, 30, 6, 31, 32, 33, 38, 39, 40, 41, 42, 43, 44, 45, 46, 47, 48, 49, 50, 51, 52, 53, 54, 55] (by decide +kernel) (by decide +kernel)
set_option maxRecDepth 20000 in
theorem gX7_one_X7_full : GoodIn wsX7_one (wsV RX7 115 RX7 yX7_full wsX7_full) := goodIn_app (goodIn_of _ (by decide +kernel)) ggX7_one_X7_full
theorem dX7_one_0 : decode cX7_one 0 = .ok (.iload_n 1, 1) := by decide +kernel
theorem dX7_one_1 : decode cX7_one 1 = .ok (.i2l, 1) := by decide +kernel
theorem dX7_one_2 : decode cX7_one 2 = .ok (.lconst 0, 1) := by decide +kernel
theorem dX7_one_3 : decode cX7_one 3 = .ok (.ldc2_w 55, 3) := by decide +kernel
theorem dX7_one_6 : decode cX7_one 6 = .ok (.invokestatic 57, 3) := by decide +kernel
theorem dX7_one_9 : decode cX7_one 9 = .ok (.ifCond .eq 30, 3) := by decide +kernel
theorem dX7_one_12 : decode cX7_one 12 = .ok (.iload_n 2, 1) := by decide +kernel
theorem dX7_one_13 : decode cX7_one 13 = .ok (.invokestatic 108, 3) := by decide +kernel
theorem dX7_one_16 : decode cX7_one 16 = .ok (.ifCond .eq 23, 3) := by decide +kernel
theorem dX7_one_19 : decode cX7_one 19 = .ok (.iload_n 3, 1) := by decide +kernel
theorem dX7_one_20 : decode cX7_one 20 = .ok (.invokestatic 99, 3) := by decide +kernel
theorem dX7_one_23 : decode cX7_one 23 = .ok (.ifCond .eq 16, 3) := by decide +kernel
theorem dX7_one_26 : decode cX7_one 26 = .ok (.iload 4, 2) := by decide +kernel
theorem dX7_one_28 : decode cX7_one 28 = .ok (.i2l, 1) := by decide +kernel
theorem dX7_one_29 : decode cX7_one 29 = .ok (.lconst 0, 1) := by decide +kernel
theorem dX7_one_30 : decode cX7_one 30 = .ok (.ldc2_w 61, 3) := by decide +kernel
theorem dX7_one_33 : decode cX7_one 33 = .ok (.invokestatic 57, 3) := by decide +kernel
theorem dX7_one_36 : decode cX7_one 36 = .ok (.ifCond .ne 8, 3) := by decide +kernel
theorem dX7_one_39 : decode cX7_one 39 = .ok (.aload_n 0, 1) := by decide +kernel
theorem dX7_one_40 : decode cX7_one 40 = .ok (.invokevirtual 111, 3) := by decide +kernel
theorem dX7_one_43 : decode cX7_one 43 = .ok (.ireturn, 1) := by decide +kernel
theorem dX7_one_44 : decode cX7_one 44 = .ok (.aload_n 0, 1) := by decide +kernel
theorem dX7_one_45 : decode cX7_one 45 = .ok (.getfield 7, 3) := by decide +kernel
theorem dX7_one_48 : decode cX7_one 48 = .ok (.bipush 15, 2) := by decide +kernel
theorem dX7_one_50 : decode cX7_one 50 = .ok (.iaload, 1) := by decide +kernel
theorem dX7_one_51 : decode cX7_one 51 = .ok (.bipush 7, 2) := by decide +kernel
theorem dX7_one_53 : decode cX7_one 53 = .ok (.if_icmp .ne 8, 3) := by decide +kernel
theorem dX7_one_56 : decode cX7_one 56 = .ok (.aload_n 0, 1) := by decide +kernel
theorem dX7_one_57 : decode cX7_one 57 = .ok (.invokevirtual 115, 3) := by decide +kernel
theorem dX7_one_60 : decode cX7_one 60 = .ok (.ireturn, 1) := by decide +kernel
theorem dX7_one_61 : decode cX7_one 61 = .ok (.bipush 18, 2) := by decide +kernel
theorem dX7_one_63 : decode cX7_one 63 = .ok (.iconst 4, 1) := by decide +kernel
theorem dX7_one_64 : decode cX7_one 64 = .ok (.aload_n 0, 1) := by decide +kernel
theorem dX7_one_65 : decode cX7_one 65 = .ok (.getfield 7, 3) := by decide +kernel
theorem dX7_one_68 : decode cX7_one 68 = .ok (.bipush 15, 2) := by decide +kernel
theorem dX7_one_70 : decode cX7_one 70 = .ok (.iaload, 1) := by decide +kernel
theorem dX7_one_71 : decode cX7_one 71 = .ok (.imul, 1) := by decide +kernel
theorem dX7_one_72 : decode cX7_one 72 = .ok (.iadd, 1) := by decide +kernel
theorem dX7_one_73 : decode cX7_one 73 = .ok (.istore 5, 2) := by decide +kernel
theorem dX7_one_75 : decode cX7_one 75 = .ok (.aload_n 0, 1) := by decide +kernel
theorem dX7_one_76 : decode cX7_one 76 = .ok (.getfield 7, 3) := by decide +kernel
theorem dX7_one_79 : decode cX7_one 79 = .ok (.iload 5, 2) := by decide +kernel
theorem dX7_one_81 : decode cX7_one 81 = .ok (.iload_n 1, 1) := by decide +kernel
theorem dX7_one_82 : decode cX7_one 82 = .ok (.iastore, 1) := by decide +kernel
theorem dX7_one_83 : decode cX7_one 83 = .ok (.aload_n 0, 1) := by decide +kernel
theorem dX7_one_84 : decode cX7_one 84 = .ok (.getfield 7, 3) := by decide +kernel
theorem dX7_one_87 : decode cX7_one 87 = .ok (.iload 5, 2) := by decide +kernel
theorem dX7_one_89 : decode cX7_one 89 = .ok (.iconst 1, 1) := by decide +kernel
theorem dX7_one_90 : decode cX7_one 90 = .ok (.iadd, 1) := by decide +kernel
theorem dX7_one_91 : decode cX7_one 91 = .ok (.iload_n 2, 1) := by decide +kernel
theorem dX7_one_92 : decode cX7_one 92 = .ok (.iastore, 1) := by decide +kernel
theorem dX7_one_93 : decode cX7_one 93 = .ok (.aload_n 0, 1) := by decide +kernel
theorem dX7_one_94 : decode cX7_one 94 = .ok (.getfield 7, 3) := by decide +kernel
theorem dX7_one_97 : decode cX7_one 97 = .ok (.iload 5, 2) := by decide +kernel
theorem dX7_one_99 : decode cX7_one 99 = .ok (.iconst 2, 1) := by decide +kernel
theorem dX7_one_100 : decode cX7_one 100 = .ok (.iadd, 1) := by decide +kernel
theorem dX7_one_101 : decode cX7_one 101 = .ok (.iload_n 3, 1) := by decide +kernel
theorem dX7_one_102 : decode cX7_one 102 = .ok (.iastore, 1) := by decide +kernel
theorem dX7_one_103 : decode cX7_one 103 = .ok (.aload_n 0, 1) := by decide +kernel
theorem dX7_one_104 : decode cX7_one 104 = .ok (.getfield 7, 3) := by decide +kernel
theorem dX7_one_107 : decode cX7_one 107 = .ok (.iload 5, 2) := by decide +kernel
theorem dX7_one_109 : decode cX7_one 109 = .ok (.iconst 3, 1) := by decide +kernel
theorem dX7_one_110 : decode cX7_one 110 = .ok (.iadd, 1) := by decide +kernel
theorem dX7_one_111 : decode cX7_one 111 = .ok (.iload 4, 2) := by decide +kernel
theorem dX7_one_113 : decode cX7_one 113 = .ok (.iastore, 1) := by decide +kernel
theorem dX7_one_114 : decode cX7_one 114 = .ok (.aload_n 0, 1) := by decide +kernel
theorem dX7_one_115 : decode cX7_one 115 = .ok (.getfield 7, 3) := by decide +kernel
theorem dX7_one_118 : decode cX7_one 118 = .ok (.bipush 15, 2) := by decide +kernel
theorem dX7_one_120 : decode cX7_one 120 = .ok (.dup2, 1) := by decide +kernel
theorem dX7_one_121 : decode cX7_one 121 = .ok (.iaload, 1) := by decide +kernel
theorem dX7_one_122 : decode cX7_one 122 = .ok (.iconst 1, 1) := by decide +kernel
theorem dX7_one_123 : decode cX7_one 123 = .ok (.iadd, 1) := by decide +kernel
theorem dX7_one_124 : decode cX7_one 124 = .ok (.iastore, 1) := by decide +kernel
theorem dX7_one_125 : decode cX7_one 125 = .ok (.aload_n 0, 1) := by decide +kernel
theorem dX7_one_126 : decode cX7_one 126 = .ok (.getfield 7, 3) := by decide +kernel
theorem dX7_one_129 : decode cX7_one 129 = .ok (.bipush 15, 2) := by decide +kernel
theorem dX7_one_131 : decode cX7_one 131 = .ok (.iaload, 1) := by decide +kernel
theorem dX7_one_132 : decode cX7_one 132 = .ok (.iconst 1, 1) := by decide +kernel
theorem dX7_one_133 : decode cX7_one 133 = .ok (.isub, 1) := by decide +kernel
theorem dX7_one_134 : decode cX7_one 134 = .ok (.ireturn, 1) := by decide +kernel
theorem dX7_of_0 : decode cX7_of 0 = .ok (.aload_n 0, 1) := by decide +kernel
theorem dX7_of_1 : decode cX7_of 1 = .ok (.getfield 7, 3) := by decide +kernel
theorem dX7_of_4 : decode cX7_of 4 = .ok (.bipush 18, 2) := by decide +kernel
theorem dX7_of_6 : decode cX7_of 6 = .ok (.iconst 4, 1) := by decide +kernel
theorem dX7_of_7 : decode cX7_of 7 = .ok (.iload_n 1, 1) := by decide +kernel
theorem dX7_of_8 : decode cX7_of 8 = .ok (.imul, 1) := by decide +kernel
theorem dX7_of_9 : decode cX7_of 9 = .ok (.iadd, 1) := by decide +kernel
theorem dX7_of_10 : decode cX7_of 10 = .ok (.iload_n 2, 1) := by decide +kernel
theorem dX7_of_11 : decode cX7_of 11 = .ok (.iadd, 1) := by decide +kernel
theorem dX7_of_12 : decode cX7_of 12 = .ok (.iaload, 1) := by decide +kernel
theorem dX7_of_13 : decode cX7_of 13 = .ok (.ireturn, 1) := by decide +kernel
set_option maxRecDepth 20000 in
theorem ggX7_rename_X7_isOne : GoodIn wsX7_rename wsX7_isOne := goodIn_r _ [6, 1, 7, 8, 5, 9, 37, 38, 39, 40, 41, 42, 43, 44, 45, 46, 47, 48, 49, 50, 51, 52, 53, 54] (by decide +kernel) (by decide +kernel)
set_option maxRecDepth 20000 in
theorem gX7_rename_X7_isOne : GoodIn wsX7_rename (wsV RX7 118 RX7 yX7_isOne wsX7_isOne) := goodIn_app (goodIn_of _ (by decide +kernel)) ggX7_rename_X7_isOne
set_option maxRecDepth 20000 in
theorem ggX7_rename_X7_isTune : GoodIn wsX7_rename wsX7_isTune := goodIn_r _ [12, 13, 14, 15, 16, 17, 18, 19, 20, 21, 22, 7, 8, 5, 9] (by decide +kernel) (by decide +kernel)
set_option maxRecDepth 20000 in
theorem gX7_rename_X7_isTune : GoodIn wsX7_rename (va_wsS RX7 108 yX7_isTune wsX7_isTune) := goodIn_app (goodIn_of _ (by decide +kernel)) ggX7_rename_X7_isTune
set_option maxRecDepth 20000 in
theorem ggX7_rename_X7_bad : GoodIn wsX7_rename wsX7_bad := goodIn_r _ [26, 27, 28, 29, 5, 30, 31, 32, 37, 38, 39, 40, 41, 42, 43, 44, 45, 46, 47, 48, 49, 50, 51, 52, 53, 54] (by decide +kernel) (by decide +kernel)
set_option maxRecDepth 20000 in
theorem gX7_rename_X7_bad : GoodIn wsX7_rename (wsV RX7 111 RX7 yX7_bad wsX7_bad) := goodIn_app (goodIn_of _ (by decide +kernel)) ggX7_rename_X7_bad
set_option maxRecDepth 20000 in
theorem ggX7_rename_X7_of : GoodIn wsX7_rename wsX7_of := goodIn_r _ [36, 1, 37, 38, 39, 40, 41, 42, 43, 44, 45, 46, 47, 48, 49, 50, 51, 52, 53, 54] (by decide +kernel) (by decide +kernel)
set_option maxRecDepth 20000 in
theorem gX7_rename_X7_of : GoodIn wsX7_rename (wsV RX7 121 RX7 yX7_of wsX7_of) := goodIn_app (goodIn_of _ (by decide +kernel)) ggX7_rename_X7_of
theorem dX7_rename_0 : decode cX7_rename 0 = .ok (.aload_n 0, 1) := by decide +kernel
theorem dX7_rename_1 : decode cX7_rename 1 = .ok (.iload_n 1, 1) := by decide +kernel
theorem dX7_rename_2 : decode cX7_rename 2 = .ok (.invokevirtual 118, 3) := by decide +kernel
theorem dX7_rename_5 : decode cX7_rename 5 = .ok (.ifCond .eq 10, 3) := by decide +kernel
theorem dX7_rename_8 : decode cX7_rename 8 = .ok (.iload_n 2, 1) := by decide +kernel
theorem dX7_rename_9 : decode cX7_rename 9 = .ok (.invokestatic 108, 3) := by decide +kernel
theorem dX7_rename_12 : decode cX7_rename 12 = .ok (.ifCond .ne 8, 3) := by decide +kernel
theorem dX7_rename_15 : decode cX7_rename 15 = .ok (.aload_n 0, 1) := by decide +kernel
theorem dX7_rename_16 : decode cX7_rename 16 = .ok (.invokevirtual 111, 3) := by decide +kernel
theorem dX7_rename_19 : decode cX7_rename 19 = .ok (.ireturn, 1) := by decide +kernel
theorem dX7_rename_20 : decode cX7_rename 20 = .ok (.aload_n 0, 1) := by decide +kernel
theorem dX7_rename_21 : decode cX7_rename 21 = .ok (.iload_n 1, 1) := by decide +kernel
theorem dX7_rename_22 : decode cX7_rename 22 = .ok (.iconst 1, 1) := by decide +kernel
theorem dX7_rename_23 : decode cX7_rename 23 = .ok (.invokevirtual 121, 3) := by decide +kernel
theorem dX7_rename_26 : decode cX7_rename 26 = .ok (.istore_n 3, 1) := by decide +kernel
theorem dX7_rename_27 : decode cX7_rename 27 = .ok (.aload_n 0, 1) := by decide +kernel
theorem dX7_rename_28 : decode cX7_rename 28 = .ok (.getfield 7, 3) := by decide +kernel
theorem dX7_rename_31 : decode cX7_rename 31 = .ok (.bipush 18, 2) := by decide +kernel
theorem dX7_rename_33 : decode cX7_rename 33 = .ok (.iconst 4, 1) := by decide +kernel
theorem dX7_rename_34 : decode cX7_rename 34 = .ok (.iload_n 1, 1) := by decide +kernel
theorem dX7_rename_35 : decode cX7_rename 35 = .ok (.imul, 1) := by decide +kernel
theorem dX7_rename_36 : decode cX7_rename 36 = .ok (.iadd, 1) := by decide +kernel
theorem dX7_rename_37 : decode cX7_rename 37 = .ok (.iconst 1, 1) := by decide +kernel
theorem dX7_rename_38 : decode cX7_rename 38 = .ok (.iadd, 1) := by decide +kernel
theorem dX7_rename_39 : decode cX7_rename 39 = .ok (.iload_n 2, 1) := by decide +kernel
theorem dX7_rename_40 : decode cX7_rename 40 = .ok (.iastore, 1) := by decide +kernel
theorem dX7_rename_41 : decode cX7_rename 41 = .ok (.iload_n 3, 1) := by decide +kernel
theorem dX7_rename_42 : decode cX7_rename 42 = .ok (.ireturn, 1) := by decide +kernel
set_option maxRecDepth 20000 in
theorem ggX7_move_X7_isOne : GoodIn wsX7_move wsX7_isOne := goodIn_r _ [6, 1, 7, 8, 5, 9, 28, 29, 30, 31, 32, 33, 34, 35, 36, 37, 38, 39, 40, 41, 42, 43, 44, 45] (by decide +kernel) (by decide +kernel)
set_option maxRecDepth 20000 in
theorem gX7_move_X7_isOne : GoodIn wsX7_move (wsV RX7 118 RX7 yX7_isOne wsX7_isOne) := goodIn_app (goodIn_of _ (by decide +kernel)) ggX7_move_X7_isOne
set_option maxRecDepth 20000 in
theorem ggX7_move_X7_isPlace : GoodIn wsX7_move wsX7_isPlace := goodIn_r _ [12, 13, 7, 8, 5, 9] (by decide +kernel) (by decide +kernel)
set_option maxRecDepth 20000 in
theorem gX7_move_X7_isPlace : GoodIn wsX7_move (va_wsS RX7 99 yX7_isPlace wsX7_isPlace) := goodIn_app (goodIn_of _ (by decide +kernel)) ggX7_move_X7_isPlace
set_option maxRecDepth 20000 in
theorem ggX7_move_X7_bad : GoodIn wsX7_move wsX7_bad := goodIn_r _ [17, 18, 19, 20, 5, 21, 22, 23, 28, 29, 30, 31, 32, 33, 34, 35, 36, 37, 38, 39, 40, 41, 42, 43, 44, 45] (by decide +kernel) (by decide +kernel)
set_option maxRecDepth 20000 in
theorem gX7_move_X7_bad : GoodIn wsX7_move (wsV RX7 111 RX7 yX7_bad wsX7_bad) := goodIn_app (goodIn_of _ (by decide +kernel)) ggX7_move_X7_bad
set_option maxRecDepth 20000 in
theorem ggX7_move_X7_of : GoodIn wsX7_move wsX7_of := goodIn_r _ [27, 1, 28, 29, 30, 31, 32, 33, 34, 35, 36, 37, 38, 39, 40, 41, 42, 43, 44, 45] (by decide +kernel) (by decide +kernel)
set_option maxRecDepth 20000 in
theorem gX7_move_X7_of : GoodIn wsX7_move (wsV RX7 121 RX7 yX7_of wsX7_of) := goodIn_app (goodIn_of _ (by decide +kernel)) ggX7_move_X7_of
theorem dX7_move_0 : decode cX7_move 0 = .ok (.aload_n 0, 1) := by decide +kernel
theorem dX7_move_1 : decode cX7_move 1 = .ok (.iload_n 1, 1) := by decide +kernel
theorem dX7_move_2 : decode cX7_move 2 = .ok (.invokevirtual 118, 3) := by decide +kernel
theorem dX7_move_5 : decode cX7_move 5 = .ok (.ifCond .eq 10, 3) := by decide +kernel
theorem dX7_move_8 : decode cX7_move 8 = .ok (.iload_n 2, 1) := by decide +kernel
theorem dX7_move_9 : decode cX7_move 9 = .ok (.invokestatic 99, 3) := by decide +kernel
theorem dX7_move_12 : decode cX7_move 12 = .ok (.ifCond .ne 8, 3) := by decide +kernel
theorem dX7_move_15 : decode cX7_move 15 = .ok (.aload_n 0, 1) := by decide +kernel
theorem dX7_move_16 : decode cX7_move 16 = .ok (.invokevirtual 111, 3) := by decide +kernel
theorem dX7_move_19 : decode cX7_move 19 = .ok (.ireturn, 1) := by decide +kernel
theorem dX7_move_20 : decode cX7_move 20 = .ok (.aload_n 0, 1) := by decide +kernel
theorem dX7_move_21 : decode cX7_move 21 = .ok (.iload_n 1, 1) := by decide +kernel
theorem dX7_move_22 : decode cX7_move 22 = .ok (.iconst 2, 1) := by decide +kernel
theorem dX7_move_23 : decode cX7_move 23 = .ok (.invokevirtual 121, 3) := by decide +kernel
theorem dX7_move_26 : decode cX7_move 26 = .ok (.istore_n 3, 1) := by decide +kernel
theorem dX7_move_27 : decode cX7_move 27 = .ok (.aload_n 0, 1) := by decide +kernel
theorem dX7_move_28 : decode cX7_move 28 = .ok (.getfield 7, 3) := by decide +kernel
theorem dX7_move_31 : decode cX7_move 31 = .ok (.bipush 18, 2) := by decide +kernel
theorem dX7_move_33 : decode cX7_move 33 = .ok (.iconst 4, 1) := by decide +kernel
theorem dX7_move_34 : decode cX7_move 34 = .ok (.iload_n 1, 1) := by decide +kernel
theorem dX7_move_35 : decode cX7_move 35 = .ok (.imul, 1) := by decide +kernel
theorem dX7_move_36 : decode cX7_move 36 = .ok (.iadd, 1) := by decide +kernel
theorem dX7_move_37 : decode cX7_move 37 = .ok (.iconst 2, 1) := by decide +kernel
theorem dX7_move_38 : decode cX7_move 38 = .ok (.iadd, 1) := by decide +kernel
theorem dX7_move_39 : decode cX7_move 39 = .ok (.iload_n 2, 1) := by decide +kernel
theorem dX7_move_40 : decode cX7_move 40 = .ok (.iastore, 1) := by decide +kernel
theorem dX7_move_41 : decode cX7_move 41 = .ok (.iload_n 3, 1) := by decide +kernel
theorem dX7_move_42 : decode cX7_move 42 = .ok (.ireturn, 1) := by decide +kernel
set_option maxRecDepth 20000 in
theorem ggX7_dead_X7_isTune : GoodIn wsX7_dead wsX7_isTune := goodIn_r _ [6, 7, 8, 9, 10, 11, 12, 13, 14, 15, 16, 17, 18, 5, 19] (by decide +kernel) (by decide +kernel)
set_option maxRecDepth 20000 in
theorem gX7_dead_X7_isTune : GoodIn wsX7_dead (va_wsS RX7 108 yX7_isTune wsX7_isTune) := goodIn_app (goodIn_of _ (by decide +kernel)) ggX7_dead_X7_isTune
set_option maxRecDepth 20000 in
theorem ggX7_dead_X7_in : GoodIn wsX7_dead wsX7_in := goodIn_r _ [19] (by decide +kernel) (by decide +kernel)
set_option maxRecDepth 20000 in
theorem gX7_dead_X7_in : GoodIn wsX7_dead (va_wsS RX7 57 yX7_in wsX7_in) := goodIn_app (goodIn_of _ (by decide +kernel)) ggX7_dead_X7_in
set_option maxRecDepth 20000 in
theorem ggX7_dead_X7_bad : GoodIn wsX7_dead wsX7_bad := goodIn_r _ [23, 24, 25, 26, 5, 27, 28, 29, 34, 35, 36, 37, 38, 39, 40, 41, 42, 43, 44, 45, 46, 47, 48, 49, 50, 51] (by decide +kernel) (by decide +kernel)
set_option maxRecDepth 20000 in
theorem gX7_dead_X7_bad : GoodIn wsX7_dead (wsV RX7 111 RX7 yX7_bad wsX7_bad) := goodIn_app (goodIn_of _ (by decide +kernel)) ggX7_dead_X7_bad
set_option maxRecDepth 20000 in
theorem ggX7_dead_X7_full : GoodIn wsX7_dead wsX7_full := goodIn_r _ [33, 24, 25, 26, 5, 27, 28, 29, 34, 35, 36, 37, 38, 39, 40, 41, 42, 43, 44, 45, 46, 47, 48, 49, 50, 51] (by decide +kernel) (by decide +kernel)
set_option maxRecDepth 20000 in
theorem gX7_dead_X7_full : GoodIn wsX7_dead (wsV RX7 115 RX7 yX7_full wsX7_full) := goodIn_app (goodIn_of _ (by decide +kernel)) ggX7_dead_X7_full
theorem dX7_dead_0 : decode cX7_dead 0 = .ok (.iload_n 1, 1) := by decide +kernel
theorem dX7_dead_1 : decode cX7_dead 1 = .ok (.invokestatic 108, 3) := by decide +kernel
theorem dX7_dead_4 : decode cX7_dead 4 = .ok (.ifCond .eq 15, 3) := by decide +kernel
theorem dX7_dead_7 : decode cX7_dead 7 = .ok (.iload_n 2, 1) := by decide +kernel
theorem dX7_dead_8 : decode cX7_dead 8 = .ok (.i2l, 1) := by decide +kernel
theorem dX7_dead_9 : decode cX7_dead 9 = .ok (.lconst 0, 1) := by decide +kernel
theorem dX7_dead_10 : decode cX7_dead 10 = .ok (.ldc2_w 124, 3) := by decide +kernel
theorem dX7_dead_13 : decode cX7_dead 13 = .ok (.invokestatic 57, 3) := by decide +kernel
theorem dX7_dead_16 : decode cX7_dead 16 = .ok (.ifCond .ne 8, 3) := by decide +kernel
theorem dX7_dead_19 : decode cX7_dead 19 = .ok (.aload_n 0, 1) := by decide +kernel
theorem dX7_dead_20 : decode cX7_dead 20 = .ok (.invokevirtual 111, 3) := by decide +kernel
theorem dX7_dead_23 : decode cX7_dead 23 = .ok (.ireturn, 1) := by decide +kernel
theorem dX7_dead_24 : decode cX7_dead 24 = .ok (.aload_n 0, 1) := by decide +kernel
theorem dX7_dead_25 : decode cX7_dead 25 = .ok (.getfield 7, 3) := by decide +kernel
theorem dX7_dead_28 : decode cX7_dead 28 = .ok (.bipush 16, 2) := by decide +kernel
theorem dX7_dead_30 : decode cX7_dead 30 = .ok (.iaload, 1) := by decide +kernel
theorem dX7_dead_31 : decode cX7_dead 31 = .ok (.bipush 6, 2) := by decide +kernel
theorem dX7_dead_33 : decode cX7_dead 33 = .ok (.if_icmp .ne 8, 3) := by decide +kernel
theorem dX7_dead_36 : decode cX7_dead 36 = .ok (.aload_n 0, 1) := by decide +kernel
theorem dX7_dead_37 : decode cX7_dead 37 = .ok (.invokevirtual 115, 3) := by decide +kernel
theorem dX7_dead_40 : decode cX7_dead 40 = .ok (.ireturn, 1) := by decide +kernel
theorem dX7_dead_41 : decode cX7_dead 41 = .ok (.aload_n 0, 1) := by decide +kernel
theorem dX7_dead_42 : decode cX7_dead 42 = .ok (.getfield 7, 3) := by decide +kernel
theorem dX7_dead_45 : decode cX7_dead 45 = .ok (.bipush 46, 2) := by decide +kernel
theorem dX7_dead_47 : decode cX7_dead 47 = .ok (.iconst 2, 1) := by decide +kernel
theorem dX7_dead_48 : decode cX7_dead 48 = .ok (.aload_n 0, 1) := by decide +kernel
theorem dX7_dead_49 : decode cX7_dead 49 = .ok (.getfield 7, 3) := by decide +kernel
theorem dX7_dead_52 : decode cX7_dead 52 = .ok (.bipush 16, 2) := by decide +kernel
theorem dX7_dead_54 : decode cX7_dead 54 = .ok (.iaload, 1) := by decide +kernel
theorem dX7_dead_55 : decode cX7_dead 55 = .ok (.imul, 1) := by decide +kernel
theorem dX7_dead_56 : decode cX7_dead 56 = .ok (.iadd, 1) := by decide +kernel
theorem dX7_dead_57 : decode cX7_dead 57 = .ok (.iload_n 1, 1) := by decide +kernel
theorem dX7_dead_58 : decode cX7_dead 58 = .ok (.iastore, 1) := by decide +kernel
theorem dX7_dead_59 : decode cX7_dead 59 = .ok (.aload_n 0, 1) := by decide +kernel
theorem dX7_dead_60 : decode cX7_dead 60 = .ok (.getfield 7, 3) := by decide +kernel
theorem dX7_dead_63 : decode cX7_dead 63 = .ok (.bipush 46, 2) := by decide +kernel
theorem dX7_dead_65 : decode cX7_dead 65 = .ok (.iconst 2, 1) := by decide +kernel
theorem dX7_dead_66 : decode cX7_dead 66 = .ok (.aload_n 0, 1) := by decide +kernel
theorem dX7_dead_67 : decode cX7_dead 67 = .ok (.getfield 7, 3) := by decide +kernel
theorem dX7_dead_70 : decode cX7_dead 70 = .ok (.bipush 16, 2) := by decide +kernel
theorem dX7_dead_72 : decode cX7_dead 72 = .ok (.iaload, 1) := by decide +kernel
theorem dX7_dead_73 : decode cX7_dead 73 = .ok (.imul, 1) := by decide +kernel
theorem dX7_dead_74 : decode cX7_dead 74 = .ok (.iadd, 1) := by decide +kernel
theorem dX7_dead_75 : decode cX7_dead 75 = .ok (.iconst 1, 1) := by decide +kernel
theorem dX7_dead_76 : decode cX7_dead 76 = .ok (.iadd, 1) := by decide +kernel
theorem dX7_dead_77 : decode cX7_dead 77 = .ok (.iload_n 2, 1) := by decide +kernel
theorem dX7_dead_78 : decode cX7_dead 78 = .ok (.iastore, 1) := by decide +kernel
theorem dX7_dead_79 : decode cX7_dead 79 = .ok (.aload_n 0, 1) := by decide +kernel
theorem dX7_dead_80 : decode cX7_dead 80 = .ok (.getfield 7, 3) := by decide +kernel
theorem dX7_dead_83 : decode cX7_dead 83 = .ok (.bipush 16, 2) := by decide +kernel
theorem dX7_dead_85 : decode cX7_dead 85 = .ok (.dup2, 1) := by decide +kernel
theorem dX7_dead_86 : decode cX7_dead 86 = .ok (.iaload, 1) := by decide +kernel
theorem dX7_dead_87 : decode cX7_dead 87 = .ok (.iconst 1, 1) := by decide +kernel
theorem dX7_dead_88 : decode cX7_dead 88 = .ok (.iadd, 1) := by decide +kernel
theorem dX7_dead_89 : decode cX7_dead 89 = .ok (.iastore, 1) := by decide +kernel
theorem dX7_dead_90 : decode cX7_dead 90 = .ok (.aload_n 0, 1) := by decide +kernel
theorem dX7_dead_91 : decode cX7_dead 91 = .ok (.getfield 7, 3) := by decide +kernel
theorem dX7_dead_94 : decode cX7_dead 94 = .ok (.bipush 16, 2) := by decide +kernel
theorem dX7_dead_96 : decode cX7_dead 96 = .ok (.iaload, 1) := by decide +kernel
theorem dX7_dead_97 : decode cX7_dead 97 = .ok (.iconst 1, 1) := by decide +kernel
theorem dX7_dead_98 : decode cX7_dead 98 = .ok (.isub, 1) := by decide +kernel
theorem dX7_dead_99 : decode cX7_dead 99 = .ok (.ireturn, 1) := by decide +kernel
set_option maxRecDepth 20000 in
theorem ggX7_comes_X7_isTune : GoodIn wsX7_comes wsX7_isTune := goodIn_r _ [4, 5, 6, 7, 8, 9, 10, 11, 12, 13, 14, 15, 16, 3, 17] (by decide +kernel) (by decide +kernel)
set_option maxRecDepth 20000 in
theorem gX7_comes_X7_isTune : GoodIn wsX7_comes (va_wsS RX7 108 yX7_isTune wsX7_isTune) := goodIn_app (goodIn_of _ (by decide +kernel)) ggX7_comes_X7_isTune
set_option maxRecDepth 20000 in
theorem ggX7_comes_X7_isWind : GoodIn wsX7_comes wsX7_isWind := goodIn_r _ [20, 21, 15, 16, 3, 17] (by decide +kernel) (by decide +kernel)
set_option maxRecDepth 20000 in
theorem gX7_comes_X7_isWind : GoodIn wsX7_comes (va_wsS RX7 126 yX7_isWind wsX7_isWind) := goodIn_app (goodIn_of _ (by decide +kernel)) ggX7_comes_X7_isWind
set_option maxRecDepth 20000 in
theorem ggX7_comes_X7_left : GoodIn wsX7_comes wsX7_left := goodIn_r _ [24, 25, 26, 3, 27, 28, 29, 30] (by decide +kernel) (by decide +kernel)
set_option maxRecDepth 20000 in
theorem gX7_comes_X7_left : GoodIn wsX7_comes (va_wsS RX7 90 yX7_left wsX7_left) := goodIn_app (goodIn_of _ (by decide +kernel)) ggX7_comes_X7_left
set_option maxRecDepth 20000 in
theorem ggX7_comes_X7_bad : GoodIn wsX7_comes wsX7_bad := goodIn_r _ [34, 35, 36, 37, 3, 38, 39, 40, 41, 42, 43, 44, 45, 46, 47, 48, 49, 50, 51, 52, 53, 54, 55, 56, 57, 58] (by decide +kernel) (by decide +kernel)
set_option maxRecDepth 20000 in
theorem gX7_comes_X7_bad : GoodIn wsX7_comes (wsV RX7 111 RX7 yX7_bad wsX7_bad) := goodIn_app (goodIn_of _ (by decide +kernel)) ggX7_comes_X7_bad
theorem dX7_comes_0 : decode cX7_comes 0 = .ok (.iload_n 1, 1) := by decide +kernel
theorem dX7_comes_1 : decode cX7_comes 1 = .ok (.invokestatic 108, 3) := by decide +kernel
theorem dX7_comes_4 : decode cX7_comes 4 = .ok (.ifCond .eq 18, 3) := by decide +kernel
theorem dX7_comes_7 : decode cX7_comes 7 = .ok (.iload_n 2, 1) := by decide +kernel
theorem dX7_comes_8 : decode cX7_comes 8 = .ok (.invokestatic 126, 3) := by decide +kernel
theorem dX7_comes_11 : decode cX7_comes 11 = .ok (.ifCond .eq 11, 3) := by decide +kernel
theorem dX7_comes_14 : decode cX7_comes 14 = .ok (.iload_n 1, 1) := by decide +kernel
theorem dX7_comes_15 : decode cX7_comes 15 = .ok (.iload_n 2, 1) := by decide +kernel
theorem dX7_comes_16 : decode cX7_comes 16 = .ok (.invokestatic 90, 3) := by decide +kernel
theorem dX7_comes_19 : decode cX7_comes 19 = .ok (.goto 7, 3) := by decide +kernel
theorem dX7_comes_22 : decode cX7_comes 22 = .ok (.aload_n 0, 1) := by decide +kernel
theorem dX7_comes_23 : decode cX7_comes 23 = .ok (.invokevirtual 111, 3) := by decide +kernel
theorem dX7_comes_26 : decode cX7_comes 26 = .ok (.ireturn, 1) := by decide +kernel
set_option maxRecDepth 20000 in
theorem ggX7_type_X7_in : GoodIn wsX7_type wsX7_in := goodIn_r _ [8] (by decide +kernel) (by decide +kernel)
set_option maxRecDepth 20000 in
theorem gX7_type_X7_in : GoodIn wsX7_type (va_wsS RX7 57 yX7_in wsX7_in) := goodIn_app (goodIn_of _ (by decide +kernel)) ggX7_type_X7_in
set_option maxRecDepth 20000 in
theorem ggX7_type_X7_bad : GoodIn wsX7_type wsX7_bad := goodIn_r _ [12, 13, 14, 15, 7, 16, 17, 18, 23, 24, 25, 26, 27, 28, 29, 30, 31, 32, 33, 34, 35, 36, 37, 38, 39, 40] (by decide +kernel) (by decide +kernel)
set_option maxRecDepth 20000 in
theorem gX7_type_X7_bad : GoodIn wsX7_type (wsV RX7 111 RX7 yX7_bad wsX7_bad) := goodIn_app (goodIn_of _ (by decide +kernel)) ggX7_type_X7_bad
set_option maxRecDepth 20000 in
theorem ggX7_type_X7_full : GoodIn wsX7_type wsX7_full := goodIn_r _ [22, 13, 14, 15, 7, 16, 17, 18, 23, 24, 25, 26, 27, 28, 29, 30, 31, 32, 33, 34, 35, 36, 37, 38, 39, 40] (by decide +kernel) (by decide +kernel)
set_option maxRecDepth 20000 in
theorem gX7_type_X7_full : GoodIn wsX7_type (wsV RX7 115 RX7 yX7_full wsX7_full) := goodIn_app (goodIn_of _ (by decide +kernel)) ggX7_type_X7_full
theorem dX7_type_0 : decode cX7_type 0 = .ok (.iload_n 3, 1) := by decide +kernel
theorem dX7_type_1 : decode cX7_type 1 = .ok (.i2l, 1) := by decide +kernel
theorem dX7_type_2 : decode cX7_type 2 = .ok (.lconst 1, 1) := by decide +kernel
theorem dX7_type_3 : decode cX7_type 3 = .ok (.ldc2_w 129, 3) := by decide +kernel
theorem dX7_type_6 : decode cX7_type 6 = .ok (.invokestatic 57, 3) := by decide +kernel
theorem dX7_type_9 : decode cX7_type 9 = .ok (.ifCond .ne 8, 3) := by decide +kernel
theorem dX7_type_12 : decode cX7_type 12 = .ok (.aload_n 0, 1) := by decide +kernel
theorem dX7_type_13 : decode cX7_type 13 = .ok (.invokevirtual 111, 3) := by decide +kernel
theorem dX7_type_16 : decode cX7_type 16 = .ok (.ireturn, 1) := by decide +kernel
theorem dX7_type_17 : decode cX7_type 17 = .ok (.aload_n 0, 1) := by decide +kernel
theorem dX7_type_18 : decode cX7_type 18 = .ok (.getfield 131, 3) := by decide +kernel
theorem dX7_type_21 : decode cX7_type 21 = .ok (.iload_n 3, 1) := by decide +kernel
theorem dX7_type_22 : decode cX7_type 22 = .ok (.iadd, 1) := by decide +kernel
theorem dX7_type_23 : decode cX7_type 23 = .ok (.sipush 200, 3) := by decide +kernel
theorem dX7_type_26 : decode cX7_type 26 = .ok (.if_icmp .le 8, 3) := by decide +kernel
theorem dX7_type_29 : decode cX7_type 29 = .ok (.aload_n 0, 1) := by decide +kernel
theorem dX7_type_30 : decode cX7_type 30 = .ok (.invokevirtual 115, 3) := by decide +kernel
theorem dX7_type_33 : decode cX7_type 33 = .ok (.ireturn, 1) := by decide +kernel
theorem dX7_type_34 : decode cX7_type 34 = .ok (.iload_n 3, 1) := by decide +kernel
theorem dX7_type_35 : decode cX7_type 35 = .ok (.iconst 1, 1) := by decide +kernel
theorem dX7_type_36 : decode cX7_type 36 = .ok (.isub, 1) := by decide +kernel
theorem dX7_type_37 : decode cX7_type 37 = .ok (.istore 4, 2) := by decide +kernel
theorem dX7_type_39 : decode cX7_type 39 = .ok (.iload 4, 2) := by decide +kernel
theorem dX7_type_41 : decode cX7_type 41 = .ok (.ifCond .lt 40, 3) := by decide +kernel
theorem dX7_type_44 : decode cX7_type 44 = .ok (.aload_n 0, 1) := by decide +kernel
theorem dX7_type_45 : decode cX7_type 45 = .ok (.getfield 26, 3) := by decide +kernel
theorem dX7_type_48 : decode cX7_type 48 = .ok (.aload_n 0, 1) := by decide +kernel
theorem dX7_type_49 : decode cX7_type 49 = .ok (.getfield 131, 3) := by decide +kernel
theorem dX7_type_52 : decode cX7_type 52 = .ok (.lload_n 1, 1) := by decide +kernel
theorem dX7_type_53 : decode cX7_type 53 = .ok (.bipush 8, 2) := by decide +kernel
theorem dX7_type_55 : decode cX7_type 55 = .ok (.iload 4, 2) := by decide +kernel
theorem dX7_type_57 : decode cX7_type 57 = .ok (.imul, 1) := by decide +kernel
theorem dX7_type_58 : decode cX7_type 58 = .ok (.lshr, 1) := by decide +kernel
theorem dX7_type_59 : decode cX7_type 59 = .ok (.ldc2_w 135, 3) := by decide +kernel
theorem dX7_type_62 : decode cX7_type 62 = .ok (.land, 1) := by decide +kernel
theorem dX7_type_63 : decode cX7_type 63 = .ok (.l2i, 1) := by decide +kernel
theorem dX7_type_64 : decode cX7_type 64 = .ok (.iastore, 1) := by decide +kernel
theorem dX7_type_65 : decode cX7_type 65 = .ok (.aload_n 0, 1) := by decide +kernel
theorem dX7_type_66 : decode cX7_type 66 = .ok (.dup, 1) := by decide +kernel
theorem dX7_type_67 : decode cX7_type 67 = .ok (.getfield 131, 3) := by decide +kernel
theorem dX7_type_70 : decode cX7_type 70 = .ok (.iconst 1, 1) := by decide +kernel
theorem dX7_type_71 : decode cX7_type 71 = .ok (.iadd, 1) := by decide +kernel
theorem dX7_type_72 : decode cX7_type 72 = .ok (.putfield 131, 3) := by decide +kernel
theorem dX7_type_75 : decode cX7_type 75 = .ok (.iinc 4 (-1), 3) := by decide +kernel
theorem dX7_type_78 : decode cX7_type 78 = .ok (.goto (-39), 3) := by decide +kernel
theorem dX7_type_81 : decode cX7_type 81 = .ok (.aload_n 0, 1) := by decide +kernel
theorem dX7_type_82 : decode cX7_type 82 = .ok (.getfield 131, 3) := by decide +kernel
theorem dX7_type_85 : decode cX7_type 85 = .ok (.ireturn, 1) := by decide +kernel
theorem dX7_clear_0 : decode cX7_clear 0 = .ok (.aload_n 0, 1) := by decide +kernel
theorem dX7_clear_1 : decode cX7_clear 1 = .ok (.getfield 131, 3) := by decide +kernel
theorem dX7_clear_4 : decode cX7_clear 4 = .ok (.istore_n 1, 1) := by decide +kernel
theorem dX7_clear_5 : decode cX7_clear 5 = .ok (.aload_n 0, 1) := by decide +kernel
theorem dX7_clear_6 : decode cX7_clear 6 = .ok (.iconst 0, 1) := by decide +kernel
theorem dX7_clear_7 : decode cX7_clear 7 = .ok (.putfield 131, 3) := by decide +kernel
theorem dX7_clear_10 : decode cX7_clear 10 = .ok (.iload_n 1, 1) := by decide +kernel
theorem dX7_clear_11 : decode cX7_clear 11 = .ok (.ireturn, 1) := by decide +kernel
set_option maxRecDepth 20000 in
theorem ggX7_isAt_X7_in : GoodIn wsX7_isAt wsX7_in := goodIn_r _ [7] (by decide +kernel) (by decide +kernel)
set_option maxRecDepth 20000 in
theorem gX7_isAt_X7_in : GoodIn wsX7_isAt (va_wsS RX7 57 yX7_in wsX7_in) := goodIn_app (goodIn_of _ (by decide +kernel)) ggX7_isAt_X7_in
theorem dX7_isAt_0 : decode cX7_isAt 0 = .ok (.aload_n 0, 1) := by decide +kernel
theorem dX7_isAt_1 : decode cX7_isAt 1 = .ok (.getfield 137, 3) := by decide +kernel
theorem dX7_isAt_4 : decode cX7_isAt 4 = .ok (.aload_n 0, 1) := by decide +kernel
theorem dX7_isAt_5 : decode cX7_isAt 5 = .ok (.getfield 131, 3) := by decide +kernel
theorem dX7_isAt_8 : decode cX7_isAt 8 = .ok (.if_icmp .ge 27, 3) := by decide +kernel
theorem dX7_isAt_11 : decode cX7_isAt 11 = .ok (.aload_n 0, 1) := by decide +kernel
theorem dX7_isAt_12 : decode cX7_isAt 12 = .ok (.getfield 26, 3) := by decide +kernel
theorem dX7_isAt_15 : decode cX7_isAt 15 = .ok (.aload_n 0, 1) := by decide +kernel
theorem dX7_isAt_16 : decode cX7_isAt 16 = .ok (.getfield 137, 3) := by decide +kernel
theorem dX7_isAt_19 : decode cX7_isAt 19 = .ok (.iaload, 1) := by decide +kernel
theorem dX7_isAt_20 : decode cX7_isAt 20 = .ok (.i2l, 1) := by decide +kernel
theorem dX7_isAt_21 : decode cX7_isAt 21 = .ok (.iload_n 1, 1) := by decide +kernel
theorem dX7_isAt_22 : decode cX7_isAt 22 = .ok (.i2l, 1) := by decide +kernel
theorem dX7_isAt_23 : decode cX7_isAt 23 = .ok (.iload_n 2, 1) := by decide +kernel
theorem dX7_isAt_24 : decode cX7_isAt 24 = .ok (.i2l, 1) := by decide +kernel
theorem dX7_isAt_25 : decode cX7_isAt 25 = .ok (.invokestatic 57, 3) := by decide +kernel
theorem dX7_isAt_28 : decode cX7_isAt 28 = .ok (.ifCond .eq 7, 3) := by decide +kernel
theorem dX7_isAt_31 : decode cX7_isAt 31 = .ok (.iconst 1, 1) := by decide +kernel
theorem dX7_isAt_32 : decode cX7_isAt 32 = .ok (.goto 4, 3) := by decide +kernel
theorem dX7_isAt_35 : decode cX7_isAt 35 = .ok (.iconst 0, 1) := by decide +kernel
theorem dX7_isAt_36 : decode cX7_isAt 36 = .ok (.ireturn, 1) := by decide +kernel
theorem dX7_verbOf_0 : decode cX7_verbOf 0 = .ok (.lload_n 0, 1) := by decide +kernel
theorem dX7_verbOf_1 : decode cX7_verbOf 1 = .ok (.ldc2_w 140, 3) := by decide +kernel
theorem dX7_verbOf_4 : decode cX7_verbOf 4 = .ok (.lcmp, 1) := by decide +kernel
theorem dX7_verbOf_5 : decode cX7_verbOf 5 = .ok (.ifCond .ne 7, 3) := by decide +kernel
theorem dX7_verbOf_8 : decode cX7_verbOf 8 = .ok (.iconst 0, 1) := by decide +kernel
theorem dX7_verbOf_9 : decode cX7_verbOf 9 = .ok (.goto 28, 3) := by decide +kernel
theorem dX7_verbOf_12 : decode cX7_verbOf 12 = .ok (.lload_n 0, 1) := by decide +kernel
theorem dX7_verbOf_13 : decode cX7_verbOf 13 = .ok (.ldc2_w 142, 3) := by decide +kernel
theorem dX7_verbOf_16 : decode cX7_verbOf 16 = .ok (.lcmp, 1) := by decide +kernel
theorem dX7_verbOf_17 : decode cX7_verbOf 17 = .ok (.ifCond .ne 7, 3) := by decide +kernel
theorem dX7_verbOf_20 : decode cX7_verbOf 20 = .ok (.iconst 1, 1) := by decide +kernel
theorem dX7_verbOf_21 : decode cX7_verbOf 21 = .ok (.goto 16, 3) := by decide +kernel
theorem dX7_verbOf_24 : decode cX7_verbOf 24 = .ok (.lload_n 0, 1) := by decide +kernel
theorem dX7_verbOf_25 : decode cX7_verbOf 25 = .ok (.ldc2_w 144, 3) := by decide +kernel
theorem dX7_verbOf_28 : decode cX7_verbOf 28 = .ok (.lcmp, 1) := by decide +kernel
theorem dX7_verbOf_29 : decode cX7_verbOf 29 = .ok (.ifCond .ne 7, 3) := by decide +kernel
theorem dX7_verbOf_32 : decode cX7_verbOf 32 = .ok (.iconst 2, 1) := by decide +kernel
theorem dX7_verbOf_33 : decode cX7_verbOf 33 = .ok (.goto 4, 3) := by decide +kernel
theorem dX7_verbOf_36 : decode cX7_verbOf 36 = .ok (.iconst (-1), 1) := by decide +kernel
theorem dX7_verbOf_37 : decode cX7_verbOf 37 = .ok (.ireturn, 1) := by decide +kernel
set_option maxRecDepth 20000 in
theorem ggX7_scans_X7_isAt : GoodIn wsX7_scans wsX7_isAt := goodIn_r _ [13, 1, 3, 6, 14, 15, 12, 16, 23, 24, 25, 26, 27, 28, 29, 30, 31, 32, 33, 34, 35, 36, 37, 38, 39, 40] (by decide +kernel) (by decide +kernel)
set_option maxRecDepth 20000 in
theorem gX7_scans_X7_isAt : GoodIn wsX7_scans (wsV RX7 146 RX7 yX7_isAt wsX7_isAt) := goodIn_app (goodIn_of _ (by decide +kernel)) ggX7_scans_X7_isAt
set_option maxRecDepth 20000 in
theorem ggX7_scans_X7_verbOf : GoodIn wsX7_scans wsX7_verbOf := goodIn_r _ [19, 20, 21, 22] (by decide +kernel) (by decide +kernel)
set_option maxRecDepth 20000 in
theorem gX7_scans_X7_verbOf : GoodIn wsX7_scans (va_wsS RX7 160 yX7_verbOf wsX7_verbOf) := goodIn_app (goodIn_of _ (by decide +kernel)) ggX7_scans_X7_verbOf
theorem dX7_scans_0 : decode cX7_scans 0 = .ok (.aload_n 0, 1) := by decide +kernel
theorem dX7_scans_1 : decode cX7_scans 1 = .ok (.bipush 32, 2) := by decide +kernel
theorem dX7_scans_3 : decode cX7_scans 3 = .ok (.bipush 32, 2) := by decide +kernel
theorem dX7_scans_5 : decode cX7_scans 5 = .ok (.invokevirtual 146, 3) := by decide +kernel
theorem dX7_scans_8 : decode cX7_scans 8 = .ok (.ifCond .eq 16, 3) := by decide +kernel
theorem dX7_scans_11 : decode cX7_scans 11 = .ok (.aload_n 0, 1) := by decide +kernel
theorem dX7_scans_12 : decode cX7_scans 12 = .ok (.dup, 1) := by decide +kernel
theorem dX7_scans_13 : decode cX7_scans 13 = .ok (.getfield 137, 3) := by decide +kernel
theorem dX7_scans_16 : decode cX7_scans 16 = .ok (.iconst 1, 1) := by decide +kernel
theorem dX7_scans_17 : decode cX7_scans 17 = .ok (.iadd, 1) := by decide +kernel
theorem dX7_scans_18 : decode cX7_scans 18 = .ok (.putfield 137, 3) := by decide +kernel
theorem dX7_scans_21 : decode cX7_scans 21 = .ok (.goto (-21), 3) := by decide +kernel
theorem dX7_scans_24 : decode cX7_scans 24 = .ok (.aload_n 0, 1) := by decide +kernel
theorem dX7_scans_25 : decode cX7_scans 25 = .ok (.aload_n 0, 1) := by decide +kernel
theorem dX7_scans_26 : decode cX7_scans 26 = .ok (.getfield 137, 3) := by decide +kernel
theorem dX7_scans_29 : decode cX7_scans 29 = .ok (.putfield 150, 3) := by decide +kernel
theorem dX7_scans_32 : decode cX7_scans 32 = .ok (.aload_n 0, 1) := by decide +kernel
theorem dX7_scans_33 : decode cX7_scans 33 = .ok (.getfield 137, 3) := by decide +kernel
theorem dX7_scans_36 : decode cX7_scans 36 = .ok (.aload_n 0, 1) := by decide +kernel
theorem dX7_scans_37 : decode cX7_scans 37 = .ok (.getfield 131, 3) := by decide +kernel
theorem dX7_scans_40 : decode cX7_scans 40 = .ok (.if_icmp .ne 9, 3) := by decide +kernel
theorem dX7_scans_43 : decode cX7_scans 43 = .ok (.aload_n 0, 1) := by decide +kernel
theorem dX7_scans_44 : decode cX7_scans 44 = .ok (.iconst 0, 1) := by decide +kernel
theorem dX7_scans_45 : decode cX7_scans 45 = .ok (.putfield 153, 3) := by decide +kernel
theorem dX7_scans_48 : decode cX7_scans 48 = .ok (.return_, 1) := by decide +kernel
theorem dX7_scans_49 : decode cX7_scans 49 = .ok (.aload_n 0, 1) := by decide +kernel
theorem dX7_scans_50 : decode cX7_scans 50 = .ok (.bipush 97, 2) := by decide +kernel
theorem dX7_scans_52 : decode cX7_scans 52 = .ok (.bipush 122, 2) := by decide +kernel
theorem dX7_scans_54 : decode cX7_scans 54 = .ok (.invokevirtual 146, 3) := by decide +kernel
theorem dX7_scans_57 : decode cX7_scans 57 = .ok (.ifCond .eq 105, 3) := by decide +kernel
theorem dX7_scans_60 : decode cX7_scans 60 = .ok (.lconst 0, 1) := by decide +kernel
theorem dX7_scans_61 : decode cX7_scans 61 = .ok (.lstore_n 1, 1) := by decide +kernel
theorem dX7_scans_62 : decode cX7_scans 62 = .ok (.aload_n 0, 1) := by decide +kernel
theorem dX7_scans_63 : decode cX7_scans 63 = .ok (.bipush 97, 2) := by decide +kernel
theorem dX7_scans_65 : decode cX7_scans 65 = .ok (.bipush 122, 2) := by decide +kernel
theorem dX7_scans_67 : decode cX7_scans 67 = .ok (.invokevirtual 146, 3) := by decide +kernel
theorem dX7_scans_70 : decode cX7_scans 70 = .ok (.ifCond .eq 56, 3) := by decide +kernel
theorem dX7_scans_73 : decode cX7_scans 73 = .ok (.aload_n 0, 1) := by decide +kernel
theorem dX7_scans_74 : decode cX7_scans 74 = .ok (.getfield 137, 3) := by decide +kernel
theorem dX7_scans_77 : decode cX7_scans 77 = .ok (.aload_n 0, 1) := by decide +kernel
theorem dX7_scans_78 : decode cX7_scans 78 = .ok (.getfield 150, 3) := by decide +kernel
theorem dX7_scans_81 : decode cX7_scans 81 = .ok (.isub, 1) := by decide +kernel
theorem dX7_scans_82 : decode cX7_scans 82 = .ok (.iconst 5, 1) := by decide +kernel
theorem dX7_scans_83 : decode cX7_scans 83 = .ok (.if_icmp .le 7, 3) := by decide +kernel
theorem dX7_scans_86 : decode cX7_scans 86 = .ok (.lconst 0, 1) := by decide +kernel
theorem dX7_scans_87 : decode cX7_scans 87 = .ok (.goto 25, 3) := by decide +kernel
theorem dX7_scans_90 : decode cX7_scans 90 = .ok (.ldc2_w 156, 3) := by decide +kernel
theorem dX7_scans_93 : decode cX7_scans 93 = .ok (.lload_n 1, 1) := by decide +kernel
theorem dX7_scans_94 : decode cX7_scans 94 = .ok (.lmul, 1) := by decide +kernel
theorem dX7_scans_95 : decode cX7_scans 95 = .ok (.aload_n 0, 1) := by decide +kernel
theorem dX7_scans_96 : decode cX7_scans 96 = .ok (.getfield 26, 3) := by decide +kernel
theorem dX7_scans_99 : decode cX7_scans 99 = .ok (.aload_n 0, 1) := by decide +kernel
theorem dX7_scans_100 : decode cX7_scans 100 = .ok (.getfield 137, 3) := by decide +kernel
theorem dX7_scans_103 : decode cX7_scans 103 = .ok (.iaload, 1) := by decide +kernel
theorem dX7_scans_104 : decode cX7_scans 104 = .ok (.i2l, 1) := by decide +kernel
theorem dX7_scans_105 : decode cX7_scans 105 = .ok (.ladd, 1) := by decide +kernel
theorem dX7_scans_106 : decode cX7_scans 106 = .ok (.ldc2_w 158, 3) := by decide +kernel
theorem dX7_scans_109 : decode cX7_scans 109 = .ok (.lsub, 1) := by decide +kernel
theorem dX7_scans_110 : decode cX7_scans 110 = .ok (.lconst 1, 1) := by decide +kernel
theorem dX7_scans_111 : decode cX7_scans 111 = .ok (.ladd, 1) := by decide +kernel
theorem dX7_scans_112 : decode cX7_scans 112 = .ok (.lstore_n 1, 1) := by decide +kernel
theorem dX7_scans_113 : decode cX7_scans 113 = .ok (.aload_n 0, 1) := by decide +kernel
theorem dX7_scans_114 : decode cX7_scans 114 = .ok (.dup, 1) := by decide +kernel
theorem dX7_scans_115 : decode cX7_scans 115 = .ok (.getfield 137, 3) := by decide +kernel
theorem dX7_scans_118 : decode cX7_scans 118 = .ok (.iconst 1, 1) := by decide +kernel
theorem dX7_scans_119 : decode cX7_scans 119 = .ok (.iadd, 1) := by decide +kernel
theorem dX7_scans_120 : decode cX7_scans 120 = .ok (.putfield 137, 3) := by decide +kernel
theorem dX7_scans_123 : decode cX7_scans 123 = .ok (.goto (-61), 3) := by decide +kernel
theorem dX7_scans_126 : decode cX7_scans 126 = .ok (.aload_n 0, 1) := by decide +kernel
